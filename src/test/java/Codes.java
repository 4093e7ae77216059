import java.util.Map;

/** Bytes written as text: codes by their names, all else as numbers; "LOAD 0, STORE 1, END" is 1 0 2 1 10. */
final class Codes {
    private static final Map<String, Integer> NAMES = Map.ofEntries(
            Map.entry("LOAD", 1), Map.entry("STORE", 2), Map.entry("PUSH4", 3), Map.entry("ADD", 4),
            Map.entry("SUB", 5), Map.entry("MUL", 6), Map.entry("DIV", 7), Map.entry("LESS", 8),
            Map.entry("BRANCH", 9), Map.entry("END", 10), Map.entry("PUSH1", 16));

    private Codes() {
    }

    static int[] of(String text) {
        String[] words = text.trim().split("[ ,]+");
        int[] bytes = new int[words.length];
        for (int i = 0; i < words.length; i++) {
            Integer code = NAMES.get(words[i]);
            bytes[i] = code != null ? code : Integer.parseInt(words[i]);
        }
        return bytes;
    }
}
