/-! the class's own functions, as its code has them, over the machine's numbers -/
abbrev Fn : Type := Nat → Int32
abbrev FL : Type := Nat → Int64
def isReg (r : Int32) : Int32 := if r < 0 then 0 else if 4 ≤ r then 0 else 1
def isOpnd (op b : Int32) : Int32 := if op = 0 then 1 else if op = 6 then (if b < 0 then 0 else if 60 < b then 0 else 1) else isReg b
def lenOf (c : Int32) : Int32 := if c = 1 then 2 else if c = 2 then 2 else if c = 3 then 5 else if c = 4 then 1 else if c = 5 then 1 else if c = 6 then 1 else if c = 7 then 1 else if c = 8 then 1 else if c = 9 then 3 else if c = 10 then 1 else if c = 16 then 2 else 0
def fitsB (n : Int32) : Int32 := if n < (-128) then 0 else if 127 < n then 0 else 1
def bytesF (op b : Int32) : Int32 := if op = 0 then (if fitsB b = 0 then lenOf 3 + lenOf 2 else lenOf 16 + lenOf 2) else if op = 6 then lenOf 1 + lenOf 9 else if op = 7 then lenOf 1 + lenOf 2 else 2 * lenOf 1 + lenOf (op + 3) + lenOf 2
def takenF (c : Int32) : Int32 := if c = 2 then 1 else if c = 4 then 2 else if c = 5 then 2 else if c = 6 then 2 else if c = 7 then 2 else if c = 8 then 2 else if c = 9 then 1 else 0
def addedF (c : Int32) : Int32 := if c = 2 then 0 else if c = 9 then 0 else if c = 10 then 0 else 1
def workedF (op : Int32) (x y : Int64) : Int64 := if op = 1 then x + y else if op = 2 then x - y else if op = 3 then x * y else if op = 4 then (if lg_cmp y 0 = 0 then 0 else x / y) else if op = 5 then (if 0 ≤ lg_cmp x y then 0 else 1) else 0
/-! a block's bytes: the row and how many -/
abbrev By : Type := Fn × Int32
def apF (v : Int32) (s : By) : By := if 300 ≤ s.2 then s else (upd s.1 s.2.toNatClampNeg (v &&& 255), s.2 + 1)
def wrR (c r : Int32) (s : By) : By := apF r (apF c s)
def wrP (n : Int32) (s : By) : By := if fitsB n = 0 then apF n (apF (n >>> ((8 : Int32) &&& 31)) (apF (n >>> ((16 : Int32) &&& 31)) (apF (n >>> ((24 : Int32) &&& 31)) (apF 3 s)))) else apF n (apF 16 s)
def wrB (g : Int32) (s : By) : By := apF g (apF (g >>> ((8 : Int32) &&& 31)) (apF 9 s))
def minF (x y : Int32) : Int32 := if y < x then y else x
def maxF (x y : Int32) : Int32 := if x < y then y else x
def stIx (ic i : Int32) : Int32 := maxF 0 (minF i ic)
def startF (t : Fn) (ic i : Int32) : Int32 := if 61 ≤ stIx ic i then 0 else t (stIx ic i).toNatClampNeg
def canF (t : Fn) (ic : Int32) : Int32 := if 300 < startF t ic ic + lenOf 10 then 0 else 1
def wrI (t : Fn) (ic op a b : Int32) (s : By) : By := if op = 0 then wrR 2 a (wrP b s) else if op = 6 then wrB (startF t ic b) (wrR 1 a s) else if op = 7 then wrR 2 a (wrR 1 b s) else wrR 2 a (apF (op + 3) (wrR 1 b (wrR 1 a s)))
def wrL (o f e t : Fn) (ic : Int32) : Nat → Int32 → By → By
  | 0, _, s => s
  | n + 1, i, s => if ic ≤ i then s else if 60 ≤ i then s else wrL o f e t ic n (i + 1) (wrI t ic (o i.toNatClampNeg) (f i.toNatClampNeg) (e i.toNatClampNeg) s)
def wrA (o f e t : Fn) (ic : Int32) (b : Fn) : By := apF 10 (wrL o f e t ic 61 0 (b, 0))
def hasF (bc i : Int32) : Int32 := if i < 0 then 0 else if bc ≤ i then 0 else if 300 ≤ i then 0 else 1
def rdF (b : Fn) (bc i : Int32) : Int32 := if hasF bc i = 0 then 0 else b i.toNatClampNeg
def rd2F (b : Fn) (bc i : Int32) : Int32 := rdF b bc i <<< ((8 : Int32) &&& 31) ||| rdF b bc (i + 1)
def rd4F (b : Fn) (bc i : Int32) : Int32 := rd2F b bc i <<< ((16 : Int32) &&& 31) ||| rd2F b bc (i + 2)
def ovF (b : Fn) (bc i v : Int32) : Fn := if hasF bc i = 0 then b else upd b i.toNatClampNeg v
/-! the checker -/
def wholeF (b : Fn) (bc at' c : Int32) : Int32 := if at' + lenOf c ≤ bc then (if c = 1 then (if isReg (rdF b bc (at' + 1)) = 0 then 0 else 1) else if c = 2 then (if isReg (rdF b bc (at' + 1)) = 0 then 0 else 1) else 1) else 0
def endF (bc at' dp : Int32) : Int32 := if dp = 0 then (if bc ≤ at' + 1 then 0 else 1 + (at' + 1)) else 1 + at'
def vcL (b : Fn) (bc : Int32) : Nat → Int32 → Int32 → Fn → Int32 × Fn
  | 0, _, _, d => (0, d)
  | n + 1, at', dp, d =>
    if bc ≤ at' then (1 + bc, d) else if 300 ≤ at' then (1 + bc, d) else
    if lenOf (rdF b bc at') < 1 then (1 + at', d) else if wholeF b bc at' (rdF b bc at') = 0 then (1 + at', d) else
    if takenF (rdF b bc at') ≤ dp then
      if rdF b bc at' = 10 then (endF bc at' dp, upd d at'.toNatClampNeg dp)
      else if dp - takenF (rdF b bc at') + addedF (rdF b bc at') ≤ 4 then vcL b bc n (at' + lenOf (rdF b bc at')) (dp - takenF (rdF b bc at') + addedF (rdF b bc at')) (upd d at'.toNatClampNeg dp)
      else (1 + at', upd d at'.toNatClampNeg dp)
    else (1 + at', d)
def goalF (d : Fn) (i : Int32) : Int32 := if i < 0 then 0 else if 300 ≤ i then 0 else if d i.toNatClampNeg = 0 then 1 else 0
def vbL (b : Fn) (bc : Int32) (d : Fn) : Nat → Int32 → Int32
  | 0, _ => 0
  | n + 1, i => if bc ≤ i then 0 else if 300 ≤ i then 0 else
    if d i.toNatClampNeg = (-1) then vbL b bc d n (i + 1) else if rdF b bc i = 9 then
      (if d i.toNatClampNeg = takenF 9 then (if goalF d (rd2F b bc (i + 1)) = 0 then 1 + i else vbL b bc d n (i + 1)) else 1 + i)
    else vbL b bc d n (i + 1)
def vcF (b : Fn) (bc : Int32) : Int32 × Fn := vcL b bc 305 0 0 (fun _ => -1)
def vdF (b : Fn) (bc : Int32) : Int32 := if (vcF b bc).1 = 0 then vbL b bc (vcF b bc).2 301 0 else (vcF b bc).1
/-! the runner: registers, pile, height, steps -/
def ldF (g : FL) (r : Int32) : Int64 := if isReg r = 0 then 0 else g r.toNatClampNeg
def stF (g : FL) (r : Int32) (v : Int64) : FL := if isReg r = 0 then g else vp_updL g r.toNatClampNeg v
abbrev Pi : Type := FL × Int32
def puF (v : Int64) (s : Pi) : Pi := if 4 ≤ s.2 then s else (vp_updL s.1 s.2.toNatClampNeg v, s.2 + 1)
def poV (s : Pi) : Int64 := if 1 ≤ s.2 then s.1 (s.2 - 1).toNatClampNeg else 0
def poH (s : Pi) : Int32 := if 1 ≤ s.2 then s.2 - 1 else s.2
def poF (s : Pi) : Pi := (s.1, poH s)
def tzF (s : Pi) : Int32 := if s.2 ≤ 0 then 0 else if lg_cmp (s.1 (s.2 - 1).toNatClampNeg) 0 = 0 then 1 else 0
def woF (op : Int32) (s : Pi) : Pi := puF (workedF op (poV (poF s)) (poV s)) (poF (poF s))
def begR (x y : Int64) : FL := vp_updL (vp_updL (fun _ => 0) 0 x) 1 y
def resF (g : FL) (op a b : Int32) : Int64 := if op = 0 then b.toInt64 else if op = 7 then ldF g b else workedF op (ldF g a) (ldF g b)
/-- rows: (registers, steps, ending) -/
def roL (o f e : Fn) (sz : Int32) : Nat → Int32 → FL → Int32 → FL × Int32 × Int32
  | 0, _, g, st => (g, st, 0)
  | n + 1, at', g, st =>
    if 2000 ≤ st then (g, st, if sz ≤ at' then 0 else 2) else if at' < 0 then (g, st, if sz ≤ at' then 0 else 2) else if sz ≤ at' then (g, st, if sz ≤ at' then 0 else 2) else
    if o at'.toNatClampNeg = 4 then
      if lg_cmp (ldF g (e at'.toNatClampNeg)) 0 = 0 then (g, st, 1) else
      if o at'.toNatClampNeg = 6 then roL o f e sz n (if lg_cmp (ldF g (f at'.toNatClampNeg)) 0 = 0 then at' + 1 else e at'.toNatClampNeg) g (st + 1)
      else roL o f e sz n (at' + 1) (stF g (f at'.toNatClampNeg) (resF g (o at'.toNatClampNeg) (f at'.toNatClampNeg) (e at'.toNatClampNeg))) (st + 1)
    else if o at'.toNatClampNeg = 6 then roL o f e sz n (if lg_cmp (ldF g (f at'.toNatClampNeg)) 0 = 0 then at' + 1 else e at'.toNatClampNeg) g (st + 1)
    else roL o f e sz n (at' + 1) (stF g (f at'.toNatClampNeg) (resF g (o at'.toNatClampNeg) (f at'.toNatClampNeg) (e at'.toNatClampNeg))) (st + 1)
def roF (o f e : Fn) (ic : Int32) (x y : Int64) : FL × Int32 × Int32 := roL o f e (minF ic 60) 2001 0 (begR x y) 0
/-- one code: (where next, registers, pile, steps) -/
def foF (b : Fn) (bc at' c : Int32) (g : FL) (s : Pi) (st : Int32) : Int32 × FL × Pi × Int32 :=
  if c = 1 then (at' + lenOf c, g, puF (ldF g (rdF b bc (at' + 1))) s, st)
  else if c = 2 then (at' + lenOf c, stF g (rdF b bc (at' + 1)) (poV s), poF s, st + 1)
  else if c = 3 then (at' + lenOf c, g, puF (rd4F b bc (at' + 1)).toInt64 s, st)
  else if c = 9 then (if lg_cmp (poV s) 0 = 0 then at' + lenOf c else rd2F b bc (at' + 1), g, poF s, st + 1)
  else if c = 16 then (at' + lenOf c, g, puF (rdF b bc (at' + 1)).toInt8.toInt32.toInt64 s, st)
  else (at' + lenOf c, g, woF (c - 3) s, st)
/-- bytes: (registers, pile, steps, ending); k: codes done -/
def byL (b : Fn) (bc : Int32) : Nat → Int32 → Int32 → FL → Pi → Int32 → FL × Pi × Int32 × Int32
  | 0, _, _, g, s, st => (g, s, st, 2)
  | n + 1, k, at', g, s, st =>
    if 600300 ≤ k then (g, s, st, 2) else
    if rdF b bc at' = 10 then (g, s, st, 0) else if st < 2000 then
      if rdF b bc at' = 7 then
        if tzF s = 0 then byL b bc n (k + 1) (foF b bc at' (rdF b bc at') g s st).1 (foF b bc at' (rdF b bc at') g s st).2.1 (foF b bc at' (rdF b bc at') g s st).2.2.1 (foF b bc at' (rdF b bc at') g s st).2.2.2
        else (g, s, st, 1)
      else byL b bc n (k + 1) (foF b bc at' (rdF b bc at') g s st).1 (foF b bc at' (rdF b bc at') g s st).2.1 (foF b bc at' (rdF b bc at') g s st).2.2.1 (foF b bc at' (rdF b bc at') g s st).2.2.2
    else (g, s, st, 2)
def byF (b : Fn) (bc : Int32) (x y : Int64) (pl : FL) : FL × Pi × Int32 × Int32 := byL b bc 600301 0 0 (begR x y) (pl, 0) 0
/-- whether two runners did the same -/
def didL (g g2 : FL) (sp sp2 en en2 : Int32) : Nat → Int32 → Int32
  | 0, _ => 0
  | n + 1, i => if 4 ≤ i then (if sp = sp2 then (if en = en2 then 1 else 0) else 0) else if lg_cmp (g i.toNatClampNeg) (g2 i.toNatClampNeg) = 0 then didL g g2 sp sp2 en en2 n (i + 1) else 0
