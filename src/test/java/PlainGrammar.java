import java.util.HashMap;
import java.util.HashSet;
import java.util.Map;
import java.util.Set;

/**
 * The document's grammar of a TEXT, written down as rules and tried out with all ways to go on at
 * once: a second way to find a FAULT, for comparison. A capital and a sign behind it are a thing
 * with a number (how many more, or how many of ! and ( are open), all else is a byte.
 */
final class PlainGrammar {
    private static final Map<String, String[]> RULES = new HashMap<>();

    static {
        for (int n = 1; n <= 8; n++) {
            rule("X" + n, "LxY" + n);
            rule("Y" + n, n == 1 ? new String[] {""} : new String[] {"", ";X" + (n - 1)});
        }
        rule("Lx", "Kx:A5", "Kx(E1):A5");
        rule("Kx", "D3", "*");
        for (int n = 1; n <= 5; n++) {
            rule("A" + n, "QxB" + n);
            rule("B" + n, n == 1 ? new String[] {""} : new String[] {"", ",A" + (n - 1)});
            rule("E" + n, "T" + n, "T" + n + "|E" + n);
            rule("T" + n, "F" + n, "F" + n + "&T" + n);
            rule("F" + n, n == 5 ? new String[] {"Sx"}
                    : new String[] {"Sx", "!F" + (n + 1), "(E" + (n + 1) + ")"});
        }
        rule("Sx", "Rx<Rx", "Rx=Rx", "Rx>Rx");
        rule("Rx", "0", "N9", "N9D9", "k", "h", "n", "Cx");
        rule("Cx", "tD3", "sD3", "gD3");
        rule("Qx", "p", "d", "b", "Cx=U4");
        for (int n = 1; n <= 4; n++) {
            rule("U" + n, "RxV" + n);
            rule("V" + n, n == 1 ? new String[] {""}
                    : new String[] {"", "+U" + (n - 1), "-U" + (n - 1)});
        }
        rule("D3", "0", "1", "2", "3");
        rule("N9", "1", "2", "3", "4", "5", "6", "7", "8", "9");
        rule("D9", "0", "1", "2", "3", "4", "5", "6", "7", "8", "9");
    }

    private PlainGrammar() {
    }

    private static void rule(String thing, String... ways) {
        RULES.put(thing, ways);
    }

    /** The FAULT of these bytes, or -1. */
    static int fault(String bytes) {
        Set<String> rests = new HashSet<>();
        rests.add("X8");
        for (int place = 0; place < bytes.length(); place++) {
            Set<String> behind = new HashSet<>();
            for (String rest : rests) step(rest, bytes.charAt(place), behind);
            if (behind.isEmpty()) return place;
            rests = behind;
        }
        for (String rest : rests) {
            if (canEnd(rest)) return -1;
        }
        return bytes.length();
    }

    /** What may stand behind a byte, if a rest begins with it. */
    private static void step(String rest, char sign, Set<String> behind) {
        if (rest.isEmpty()) return;
        if (!Character.isUpperCase(rest.charAt(0))) {
            if (rest.charAt(0) == sign) behind.add(rest.substring(1));
            return;
        }
        for (String way : RULES.get(rest.substring(0, 2))) step(way + rest.substring(2), sign, behind);
    }

    private static boolean canEnd(String rest) {
        if (rest.isEmpty()) return true;
        if (!Character.isUpperCase(rest.charAt(0))) return false;
        for (String way : RULES.get(rest.substring(0, 2))) {
            if (way.isEmpty() && canEnd(rest.substring(2))) return true;
        }
        return false;
    }
}
