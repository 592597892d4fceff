import java.util.ArrayList;
import java.util.List;
import java.util.Map;

/** A TEXT without a FAULT, kept as it was written and taken apart anew for each packet. */
final class PlainText {
    final List<String> lines;

    PlainText(String bytes) {
        lines = apart(bytes, ";");
    }

    /** A text in parts, at signs that stand in no ( ). */
    private static List<String> apart(String text, String signs) {
        List<String> parts = new ArrayList<>();
        int open = 0;
        int from = 0;
        for (int i = 0; i < text.length(); i++) {
            char sign = text.charAt(i);
            if (sign == '(') open++;
            if (sign == ')') open--;
            if (open == 0 && signs.indexOf(sign) >= 0) {
                parts.add(text.substring(from, i));
                from = i + 1;
            }
        }
        parts.add(text.substring(from));
        return parts;
    }

    List<String> acts(int line) {
        String text = lines.get(line);
        return apart(text.substring(text.indexOf(':') + 1), ",");
    }

    private String condition(int line) {
        String head = lines.get(line);
        head = head.substring(0, head.indexOf(':'));
        return head.length() == 1 ? "" : head.substring(2, head.length() - 1);
    }

    /** The LINE for a packet (talk, house, kind, n), or -5. */
    int lineFor(int[] packet, Map<String, Integer> memory) {
        for (int line = 0; line < lines.size(); line++) {
            char kind = lines.get(line).charAt(0);
            if (kind != '*' && kind - '0' != packet[2]) continue;
            String e = condition(line);
            if (e.isEmpty() || holds(e, packet, memory)) return line;
        }
        return -5;
    }

    private static boolean holds(String e, int[] packet, Map<String, Integer> memory) {
        List<String> parts = apart(e, "|");
        if (parts.size() > 1) {
            for (String part : parts) {
                if (holds(part, packet, memory)) return true;
            }
            return false;
        }
        parts = apart(e, "&");
        if (parts.size() > 1) {
            for (String part : parts) {
                if (!holds(part, packet, memory)) return false;
            }
            return true;
        }
        if (e.charAt(0) == '!') return !holds(e.substring(1), packet, memory);
        if (e.charAt(0) == '(') return holds(e.substring(1, e.length() - 1), packet, memory);
        for (String sign : new String[] {"<", "=", ">"}) {
            int at = e.indexOf(sign);
            if (at < 0) continue;
            long left = value(e.substring(0, at), packet, memory);
            long right = value(e.substring(at + 1), packet, memory);
            return sign.equals("<") ? left < right : sign.equals("=") ? left == right : left > right;
        }
        throw new IllegalStateException(e);
    }

    /** The name under which a CELL stands in a MEMORY. */
    private static String name(String cell, int[] packet) {
        return cell + (cell.charAt(0) == 't' ? " of " + packet[0] : cell.charAt(0) == 's' ? " of " + packet[1] : "");
    }

    private static int value(String term, int[] packet, Map<String, Integer> memory) {
        if (Character.isDigit(term.charAt(0))) return Integer.parseInt(term);
        if (term.equals("k")) return packet[2];
        if (term.equals("h")) return packet[1];
        if (term.equals("n")) return packet[3];
        return memory.getOrDefault(name(term, packet), 0);
    }

    /** Does the ACTS of a LINE: 1 PASSED, 0 DROPPED, 2 BROKEN. */
    int does(int line, int[] packet, Map<String, Integer> memory) {
        if (line < 0) return 1;
        for (String act : acts(line)) {
            if (act.equals("p")) return 1;
            if (act.equals("d")) return 0;
            if (act.equals("b")) {
                for (int digit = 0; digit < 4; digit++) memory.remove("t" + digit + " of " + packet[0]);
                return 2;
            }
            long sum = 0;
            for (String signed : act.substring(3).split("(?=[+-])")) {
                boolean less = signed.charAt(0) == '-';
                String term = less || signed.charAt(0) == '+' ? signed.substring(1) : signed;
                sum += less ? -(long) value(term, packet, memory) : value(term, packet, memory);
            }
            memory.put(name(act.substring(0, 2), packet), (int) sum);
        }
        return 1;
    }

    /** What an s or g is: -1 UNUSED, -2 SUM, else the first LINE that makes it ONE. */
    int part(String cell) {
        boolean stands = false;
        for (int line = 0; line < lines.size(); line++) {
            if (condition(line).contains(cell)) return line;
            for (String act : acts(line)) {
                if (!act.contains(cell)) continue;
                stands = true;
                // Itself at first, then other TERMS alone.
                if (!act.matches(cell + "=" + cell + "([+-](?!" + cell + ")[a-z0-9]+)*")) return line;
            }
        }
        return stands ? -2 : -1;
    }
}
