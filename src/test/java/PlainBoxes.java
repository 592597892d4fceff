import java.util.ArrayList;
import java.util.Arrays;
import java.util.Collections;
import java.util.HashMap;
import java.util.List;
import java.util.Map;

/**
 * The document's promises a second time, as plainly as they can be said and however slow: MEMORIES
 * are maps of names, THE IMAGE is the calls that led to it (done anew by undo), rows of packets are
 * all listed. For comparison alone.
 */
final class PlainBoxes {
    private static final int NONE = -1, BAD = -2, STATE = -3, FULL = -4;
    private static final int[] ABOVE = {-1, 0, 0, 0, 1, 3, 0};

    private static final class Box {
        int kind, text, latest = -5, copies;
        int[] led = new int[16];
        Map<String, Integer> memory = new HashMap<>();
        Map<String, Integer> copy = new HashMap<>();
    }

    private StringBuilder tape = new StringBuilder();
    private List<PlainText> texts = new ArrayList<>();
    private List<Box> boxes = new ArrayList<>();
    private List<Integer> row = new ArrayList<>();
    private List<int[]> waiting = new ArrayList<>();
    private List<int[]> alphabet = new ArrayList<>();
    private List<Integer> trace = new ArrayList<>();
    private int held;
    private List<long[]> done = new ArrayList<>();
    private List<long[]> image;

    /** A call by its number in the face's order (feed 0 .. count 26) and what it is told. */
    long call(long... told) {
        int before = done.size();
        long answer = answer(told);
        if (told[0] < 25 && done.size() == before) done.add(told.clone());
        return answer;
    }

    private long answer(long[] told) {
        int[] a = new int[6];
        for (int i = 1; i < told.length; i++) a[i] = (int) told[i];
        switch ((int) told[0]) {
            case 0: return feed(told[1], a[2]);
            case 1: return text();
            case 2: return lines(a[1], a[2]);
            case 3: return part(a[1], a[2], a[3], a[4]);
            case 4: return box(a[1], a[2]);
            case 5: return work(a[1], a[2], a[3], a[4], a[5]);
            case 6: return cell(a[1], a[2], a[3], a[4]);
            case 7: return isBox(a[1]) ? boxes.get(a[1]).latest : NONE;
            case 8: return row(a[1]);
            case 9: return send(a[1], a[2], a[3], a[4]);
            case 10: return lead(a[1], a[2], a[3]);
            case 11: return isBox(a[1]) && a[2] >= 0 && a[2] < 16 ? boxes.get(a[1]).led[a[2]] : NONE;
            case 12: return hold(a[1]);
            case 13: return release();
            case 14: return whole(a[1], a[2], a[3]);
            case 15: return copy(a[1]);
            case 16: return fall(a[1]);
            case 17: return letter(a[1], a[2], a[3], a[4]);
            case 18: return shown(a[1], a[2], a[3], a[4], a[5]);
            case 19: return ways(a[1], a[2], a[3], a[4]);
            case 20: return orders(a[1], a[2], a[3], a[4], a[5]);
            case 21: return act(a[1], a[2], a[3]);
            case 22: return a[1] >= 0 && a[1] < Math.min(20, trace.size()) ? trace.get(a[1]) : NONE;
            case 23: return as(a[1], a[2]);
            case 24: return count(a[1]);
            case 25: return image();
            case 26: return undo();
            default: throw new IllegalStateException();
        }
    }

    private boolean isText(int text) {
        return text >= 0 && text < texts.size();
    }

    private boolean isBox(int box) {
        return box >= 0 && box < boxes.size();
    }

    private int feed(long w, int n) {
        if (n < 1 || n > 8) return BAD;
        if (tape.length() + n > 160) return FULL;
        for (int i = 8 - n; i < 8; i++) tape.append((char) (w << 8 * i >>> 56));
        return tape.length();
    }

    private int text() {
        if (texts.size() == 8) return FULL;
        String bytes = tape.toString();
        tape = new StringBuilder();
        int fault = PlainGrammar.fault(bytes);
        if (fault >= 0) return -10 - fault;
        texts.add(new PlainText(bytes));
        return texts.size() - 1;
    }

    private int lines(int text, int line) {
        if (!isText(text) || line < -1 || line >= texts.get(text).lines.size()) return NONE;
        return line == -1 ? texts.get(text).lines.size() : texts.get(text).acts(line).size();
    }

    private int part(int text, int letter, int digit, int what) {
        if (!isText(text) || letter < 0 || letter > 1 || digit < 0 || digit > 3 || what < 0 || what > 1) return NONE;
        int is = texts.get(text).part((letter == 0 ? "s" : "g") + digit);
        if (what == 1) return is < 0 ? -5 : is;
        return is == -1 ? 0 : is == -2 ? 1 : 2;
    }

    private int box(int kind, int text) {
        if (kind < 0 || kind > 6 || !isText(text)) return NONE;
        if (boxes.size() == 8) return FULL;
        Box box = new Box();
        box.kind = kind;
        box.text = text;
        Arrays.fill(box.led, boxes.size());
        boxes.add(box);
        return boxes.size() - 1;
    }

    private static int packet(int talk, int house, int kind, int n) {
        if (talk < 0 || talk > 15 || house < 0 || house > 3 || kind < 0 || kind > 3) return NONE;
        return n < 0 || n > 99 ? BAD : 0;
    }

    private int worked(int box, int[] packet) {
        Box told = boxes.get(box);
        PlainText text = texts.get(told.text);
        told.latest = text.lineFor(packet, told.memory);
        return text.does(told.latest, packet, told.memory);
    }

    private int work(int box, int talk, int house, int kind, int n) {
        if (!isBox(box)) return NONE;
        int refusal = packet(talk, house, kind, n);
        return refusal != 0 ? refusal : worked(box, new int[] {talk, house, kind, n});
    }

    private int cell(int box, int letter, int digit, int of) {
        boolean is = isBox(box) && letter >= 0 && letter <= 2 && digit >= 0 && digit <= 3;
        if (!is || letter < 2 && (of < 0 || of >= (letter == 0 ? 16 : 4))) return -2147483648;
        String name = "tsg".substring(letter, letter + 1) + digit + (letter < 2 ? " of " + of : "");
        return boxes.get(box).memory.getOrDefault(name, 0);
    }

    /** How many TALKS a BOX leads to others. */
    private int away(int box) {
        int away = 0;
        for (int to : boxes.get(box).led) away += to == box ? 0 : 1;
        return away;
    }

    private boolean isLedTo(int box) {
        for (int other = 0; other < boxes.size(); other++) {
            for (int to : boxes.get(other).led) {
                if (other != box && to == box) return true;
            }
        }
        return false;
    }

    private int row(int box) {
        if (box == -1) row.clear();
        if (box == -1) return 0;
        if (!isBox(box)) return NONE;
        if (isLedTo(box)) return STATE;
        if (row.size() == 6) return FULL;
        row.add(box);
        return row.size();
    }

    private int sent(int[] packet) {
        for (int place = 0; place < row.size(); place++) {
            int how = worked(boxes.get(row.get(place)).led[packet[0]], packet);
            if (how != 1) return 10 * place + how;
        }
        return 10 * row.size() + 1;
    }

    private int send(int talk, int house, int kind, int n) {
        int refusal = packet(talk, house, kind, n);
        if (refusal != 0) return refusal;
        if (row.isEmpty()) return STATE;
        int[] packet = {talk, house, kind, n};
        if ((held >> talk & 1) == 0) return sent(packet);
        if (waiting.size() == 20) return FULL;
        waiting.add(packet);
        return -6;
    }

    private int lead(int box, int to, int talks) {
        if (!isBox(box) || !isBox(to)) return NONE;
        if (talks < 0 || talks > 65535) return BAD;
        if (to != box && row.contains(to) || to != box && away(to) > 0 || isLedTo(box)) return STATE;
        for (int talk = 0; talk < 16; talk++) {
            int from = boxes.get(box).led[talk];
            if ((talks >> talk & 1) == 0 || from == to) continue;
            for (int digit = 0; digit < 4; digit++) {
                String name = "t" + digit + " of " + talk;
                boxes.get(to).memory.put(name, boxes.get(from).memory.getOrDefault(name, 0));
                boxes.get(from).memory.remove(name);
            }
            boxes.get(box).led[talk] = to;
        }
        return away(box);
    }

    private int hold(int talks) {
        if (talks < 0 || talks > 65535) return BAD;
        held |= talks;
        return Integer.bitCount(held);
    }

    private int release() {
        if (row.isEmpty() && !waiting.isEmpty()) return STATE;
        held = 0;
        List<int[]> go = waiting;
        waiting = new ArrayList<>();
        for (int[] packet : go) sent(packet);
        return go.size();
    }

    private int whole(int box, int other, int third) {
        if (!isBox(box) || !isBox(other) || !isBox(third)) return NONE;
        if (box == other || box == third || other == third) return BAD;
        for (int digit = 0; digit < 4; digit++) {
            for (int talk = 0; talk < 16; talk++) {
                if (cell(boxes.get(box).led[talk], 0, digit, talk) != cell(third, 0, digit, talk)) return 0;
            }
            for (int house = 0; house < 4; house++) {
                int both = cell(box, 1, digit, house) + cell(other, 1, digit, house);
                if (both != cell(third, 1, digit, house)) return 0;
            }
            if (cell(box, 2, digit, 0) + cell(other, 2, digit, 0) != cell(third, 2, digit, 0)) return 0;
        }
        return 1;
    }

    private int copy(int box) {
        if (!isBox(box)) return NONE;
        boxes.get(box).copy = new HashMap<>(boxes.get(box).memory);
        return boxes.get(box).copies++;
    }

    private int fall(int box) {
        if (!isBox(box)) return NONE;
        Map<String, Integer> was = boxes.get(box).memory;
        boxes.get(box).memory = new HashMap<>(boxes.get(box).copy);
        int takenUp = 65535;
        for (int talk = 0; talk < 16; talk++) {
            for (int digit = 0; digit < 4; digit++) {
                String name = "t" + digit + " of " + talk;
                if (was.getOrDefault(name, 0) != cell(box, 0, digit, talk)) takenUp &= ~(1 << talk);
            }
        }
        return takenUp;
    }

    private int letter(int talk, int house, int kind, int n) {
        int refusal = packet(talk, house, kind, n);
        if (refusal != 0) return refusal;
        if (alphabet.size() == 5) return FULL;
        alphabet.add(new int[] {talk, house, kind, n});
        return alphabet.size();
    }

    /** All rows of 1 to d places, in the order in which they are to be looked for. */
    private List<int[]> rows(int d) {
        List<int[]> rows = new ArrayList<>();
        List<int[]> longest = Collections.singletonList(new int[0]);
        for (int length = 1; length <= d; length++) {
            List<int[]> longer = new ArrayList<>();
            for (int[] row : longest) {
                for (int place = 0; place < alphabet.size(); place++) {
                    int[] more = Arrays.copyOf(row, length);
                    more[length - 1] = place;
                    longer.add(more);
                }
            }
            longest = longer;
            rows.addAll(longer);
        }
        return rows;
    }

    /** How each packet of a row ends at TEXTS one behind the other, from empty MEMORIES. */
    private List<Integer> ends(List<PlainText> behind, int[] row) {
        List<Map<String, Integer>> memories = new ArrayList<>();
        for (int i = 0; i < behind.size(); i++) memories.add(new HashMap<>());
        List<Integer> ends = new ArrayList<>();
        for (int place : row) {
            int[] packet = alphabet.get(place);
            int how = 1;
            for (int i = 0; i < behind.size() && how == 1; i++) {
                how = behind.get(i).does(behind.get(i).lineFor(packet, memories.get(i)), packet, memories.get(i));
            }
            ends.add(how);
        }
        return ends;
    }

    private boolean breaks(List<PlainText> behind, int[] row, int form, int n) {
        List<Integer> ends = ends(behind, row);
        Map<Integer, int[]> open = new HashMap<>();
        for (int i = 0; i < row.length; i++) {
            int[] packet = alphabet.get(row[i]);
            if (ends.get(i) != 1) continue;
            int before = 0, zeros = 0, broken = 0;
            for (int j = 0; j < i; j++) {
                int[] earlier = alphabet.get(row[j]);
                if (earlier[0] != packet[0]) continue;
                if (ends.get(j) == 2) broken++;
                if (ends.get(j) == 1) before++;
                if (ends.get(j) == 1 && earlier[2] == 0) zeros++;
            }
            if (form == 0 && packet[2] == 1 && zeros == 0) return true;
            if (form == 2 && before + 1 > n) return true;
            if (form == 4 && broken > 0) return true;
            if (packet[2] == 0) open.put(packet[0], packet);
            if (packet[2] == 2) open.remove(packet[0]);
            if (form == 1 && most(open, 1) > n || form == 3 && most(open, 3) > 1) return true;
        }
        return false;
    }

    /** How many OPEN TALKS have one HOUSE (1), or one N (3), at most. */
    private static int most(Map<Integer, int[]> open, int what) {
        int[] counts = new int[100];
        int most = 0;
        for (int[] packet : open.values()) most = Math.max(most, ++counts[packet[what]]);
        return most;
    }

    private int[] breach(List<PlainText> behind, int form, int n, int d) {
        for (int[] row : rows(d)) {
            if (breaks(behind, row, form, n)) return row;
        }
        return new int[0];
    }

    private int shown(int text, int form, int n, int d, int i) {
        if (!isText(text) || form < 0 || form > 4 || i < -2) return NONE;
        if (n < 0 || n > 99 || d < 1 || d > 3) return BAD;
        int[] breach = breach(Collections.singletonList(texts.get(text)), form, n, d);
        if (i == -1) return breach.length == 0 ? 1 : 0;
        if (i == -2) return breach.length;
        return i < breach.length ? breach[i] : NONE;
    }

    private int ways(int a, int b, int d, int i) {
        if (!isText(a) || !isText(b) || i < -1) return NONE;
        if (d < 1 || d > 3) return BAD;
        for (int[] row : rows(d)) {
            int one = ends(Collections.singletonList(texts.get(a)), row).get(row.length - 1);
            int other = ends(Collections.singletonList(texts.get(b)), row).get(row.length - 1);
            if (one != other) return i == -1 ? row.length : i < row.length ? row[i] : NONE;
        }
        return i == -1 ? 0 : NONE;
    }

    private int orders(int told, int form, int n, int d, int i) {
        if (form < 0 || form > 4 || i < -1) return NONE;
        List<Integer> set = new ArrayList<>();
        for (int bit = 0; bit < 32; bit++) {
            if ((told >>> bit & 1) == 1) set.add(bit);
        }
        for (int box : set) {
            if (!isBox(box)) return BAD;
        }
        if (set.size() < 2 || set.size() > 4 || n < 0 || n > 99 || d < 1 || d > 3) return BAD;
        List<List<Integer>> orders = new ArrayList<>();
        orders(set, new ArrayList<>(), orders);
        List<List<Integer>> keep = new ArrayList<>();
        for (List<Integer> order : orders) {
            List<PlainText> behind = new ArrayList<>();
            for (int box : order) behind.add(texts.get(boxes.get(box).text));
            if (breach(behind, form, n, d).length == 0) keep.add(order);
        }
        if (i == -1) return keep.size();
        return keep.isEmpty() || i >= set.size() ? NONE : keep.get(0).get(i);
    }

    private static void orders(List<Integer> left, List<Integer> begun, List<List<Integer>> orders) {
        if (left.isEmpty()) orders.add(begun);
        for (Integer next : left) {
            List<Integer> fewer = new ArrayList<>(left);
            fewer.remove(next);
            List<Integer> longer = new ArrayList<>(begun);
            longer.add(next);
            orders(fewer, longer, orders);
        }
    }

    /** The KINDS as Java has them: what stands in a body is said as the document says it. */
    private class Plain {
        final int i, k;

        Plain(int i, int k) {
            this.i = i;
            this.k = k;
        }

        int keeps(int x) {
            trace.add(1);
            return x + i;
        }

        int works(int x) {
            trace.add(2);
            return keeps(x) - k;
        }

        int leads(int x) {
            trace.add(3);
            return works(x) * 2;
        }
    }

    private class Wall extends Plain {
        Wall(int i, int k) {
            super(i, k);
        }

        @Override int works(int x) {
            trace.add(11);
            return super.works(x * 3);
        }
    }

    private class Lender extends Plain {
        Lender(int i, int k) {
            super(i, k);
        }

        @Override int keeps(int x) {
            trace.add(21);
            return -super.keeps(x);
        }
    }

    private class Sharer extends Plain {
        Sharer(int i, int k) {
            super(i, k);
        }

        @Override int leads(int x) {
            trace.add(31);
            return super.leads(x) ^ 5;
        }
    }

    private class Mender extends Wall {
        Mender(int i, int k) {
            super(i, k);
        }

        @Override int leads(int x) {
            trace.add(41);
            return super.leads(x - 1) + keeps(2);
        }
    }

    private class Counter extends Sharer {
        Counter(int i, int k) {
            super(i, k);
        }

        @Override int works(int x) {
            trace.add(51);
            return super.works(x) + i;
        }
    }

    private class Strange extends Plain {
        Strange(int i, int k) {
            super(i, k);
        }

        @Override int keeps(int x) {
            trace.add(61);
            return super.keeps(x + 1) ^ 9;
        }
    }

    private Plain plain(int box) {
        int k = texts.get(boxes.get(box).text).lines.size();
        switch (boxes.get(box).kind) {
            case 1: return new Wall(box, k);
            case 2: return new Lender(box, k);
            case 3: return new Sharer(box, k);
            case 4: return new Mender(box, k);
            case 5: return new Counter(box, k);
            case 6: return new Strange(box, k);
            default: return new Plain(box, k);
        }
    }

    private int act(int box, int act, int x) {
        trace.clear();
        if (!isBox(box) || act < 0 || act > 2) return 0;
        Plain plain = plain(box);
        return act == 0 ? plain.keeps(x) : act == 1 ? plain.works(x) : plain.leads(x);
    }

    private int as(int box, int k) {
        if (!isBox(box) || k < 0 || k > 6) return NONE;
        for (int kind = boxes.get(box).kind; kind >= 0; kind = ABOVE[kind]) {
            if (kind == k) return boxes.get(box).text;
        }
        return -6;
    }

    private int image() {
        image = new ArrayList<>(done);
        return boxes.size();
    }

    private int undo() {
        if (image == null) return STATE;
        tape = new StringBuilder();
        texts = new ArrayList<>();
        boxes = new ArrayList<>();
        row = new ArrayList<>();
        waiting = new ArrayList<>();
        alphabet = new ArrayList<>();
        trace = new ArrayList<>();
        held = 0;
        done = new ArrayList<>();
        for (long[] told : new ArrayList<>(image)) call(told);
        return boxes.size();
    }

    private int count(int what) {
        int[] counts = {texts.size(), boxes.size(), row.size(), waiting.size(), held, alphabet.size(),
            tape.length(), trace.size()};
        return what < 0 || what > 7 ? NONE : counts[what];
    }
}
