import java.util.Random;

/** TEXTS made up from a random source, within 160 bytes, and bytes that are nearly one. */
final class MadeText {
    private final Random random;
    private final StringBuilder made = new StringBuilder();

    private MadeText(Random random) {
        this.random = random;
    }

    /** A TEXT without a FAULT. */
    static String any(Random random) {
        for (int i = 0; i < 1000; i++) {
            MadeText text = new MadeText(random);
            text.lines();
            if (text.made.length() <= 160) return text.made.toString();
        }
        return "*:p";
    }

    /** The bytes with one or two of them put in, taken out or changed (or as they are). */
    static String amiss(Random random, String bytes) {
        String signs = "0123456789*()!&|<=>+-,;:khntsgpdb \0\377";
        StringBuilder text = new StringBuilder(bytes);
        for (int times = random.nextInt(3); times > 0; times--) {
            char sign = signs.charAt(random.nextInt(signs.length()));
            int at = random.nextInt(text.length() + 1);
            int how = random.nextInt(4);
            if (how == 0 || at == text.length()) text.insert(at, sign);
            else if (how == 1) text.deleteCharAt(at);
            else if (how == 2) text.setCharAt(at, sign);
            else text.setLength(at);
        }
        return text.length() > 160 ? text.substring(0, 160) : text.toString();
    }

    private void lines() {
        int lines = 1 + random.nextInt(random.nextInt(4) == 0 ? 9 : 5);
        for (int line = 0; line < Math.min(lines, 8); line++) {
            if (line > 0) made.append(';');
            made.append(random.nextInt(4) == 0 ? '*' : (char) ('0' + random.nextInt(4)));
            if (random.nextInt(2) == 0) {
                made.append('(');
                e(1);
                made.append(')');
            }
            made.append(':');
            acts();
        }
    }

    private void e(int open) {
        do f(open); while (random.nextInt(3) == 0 && made.append(random.nextBoolean() ? '&' : '|') != null);
    }

    private void f(int open) {
        int what = random.nextInt(5);
        if (open < 5 && what == 0) {
            made.append('!');
            f(open + 1);
        } else if (open < 5 && what == 1) {
            made.append('(');
            e(open + 1);
            made.append(')');
        } else {
            term();
            made.append("<=>".charAt(random.nextInt(3)));
            term();
        }
    }

    private void acts() {
        int acts = 1 + random.nextInt(random.nextInt(3) == 0 ? 5 : 2);
        for (int act = 0; act < acts; act++) {
            if (act > 0) made.append(',');
            boolean last = act == acts - 1 || random.nextInt(8) == 0;
            if (last && random.nextInt(2) == 0) made.append("pdb".charAt(random.nextInt(3)));
            else become();
        }
    }

    private void become() {
        String cell = cell();
        made.append(cell).append('=');
        if (random.nextInt(2) == 0) made.append(cell);
        else term();
        for (int more = random.nextInt(4); more > 0; more--) {
            made.append(random.nextBoolean() ? '+' : '-');
            term();
        }
    }

    private String cell() {
        return "" + "tsg".charAt(random.nextInt(3)) + random.nextInt(random.nextInt(3) == 0 ? 4 : 2);
    }

    private void term() {
        switch (random.nextInt(5)) {
            case 0: made.append(random.nextInt(4)); break;
            case 1: made.append(random.nextInt(100)); break;
            case 2: made.append("khn".charAt(random.nextInt(3))); break;
            default: made.append(cell());
        }
    }
}
