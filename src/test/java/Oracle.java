import java.util.ArrayDeque;
import java.util.ArrayList;
import java.util.Deque;
import java.util.List;

/**
 * A second program for the same document, made plainly and otherwise than the first: plates and
 * guests are objects, texts are read by two stacks, all rows are tried. OracleTest compares both.
 */
final class Oracle {
    static final int NONE = -1, BAD = -2, STATE = -3, FULL = -4;
    static final long NO = -4611686018427387904L;

    static class Plate {
        int number, dish, colour, age, state;
        int seat = NONE;

        Plate copy() {
            Plate p = new Plate();
            p.number = number;
            p.dish = dish;
            p.colour = colour;
            p.age = age;
            p.state = state;
            p.seat = seat;
            return p;
        }
    }

    static class Guest {
        int likes, eaten, waited;
        Plate took;

        int liking(Plate p) {
            String digits = String.format("%06d", likes);
            return digits.charAt(5 - p.dish) - '0';
        }

        int room() {
            return 6;
        }

        int kind() {
            return 0;
        }

        boolean is(int k) {
            return k == 0;
        }
    }

    static class Child extends Guest {
        @Override int liking(Plate p) {
            return super.liking(p) + (p.dish == 0 ? 2 : 0);
        }

        @Override int room() {
            return super.room() - 3;
        }

        @Override int kind() {
            return 1;
        }

        @Override boolean is(int k) {
            return k == 1 || super.is(k);
        }
    }

    static class Hungry extends Guest {
        @Override int liking(Plate p) {
            return super.liking(p) + 1;
        }

        @Override int room() {
            return super.room() + 4;
        }

        @Override int kind() {
            return 2;
        }

        @Override boolean is(int k) {
            return k == 2 || super.is(k);
        }
    }

    static class Picky extends Guest {
        @Override int liking(Plate p) {
            return super.liking(p) - p.age / 4;
        }

        @Override int kind() {
            return 3;
        }

        @Override boolean is(int k) {
            return k == 3 || super.is(k);
        }
    }

    static class Late extends Hungry {
        @Override int liking(Plate p) {
            return super.liking(p) + waited / 5;
        }

        @Override int room() {
            return super.room() - 1;
        }

        @Override int kind() {
            return 4;
        }

        @Override boolean is(int k) {
            return k == 4 || super.is(k);
        }
    }

    static class Baby extends Child {
        @Override int liking(Plate p) {
            if (eaten < 2) {
                return super.liking(p);
            }
            return super.liking(p) - (p.dish == 0 ? 2 : 0);
        }

        @Override int room() {
            return super.room() - 1;
        }

        @Override int kind() {
            return 5;
        }

        @Override boolean is(int k) {
            return k == 5 || super.is(k);
        }
    }

    static Guest newGuest(int kind) {
        switch (kind) {
            case 1: return new Child();
            case 2: return new Hungry();
            case 3: return new Picky();
            case 4: return new Late();
            case 5: return new Baby();
            default: return new Guest();
        }
    }

    static class Seat {
        int place, payer = NONE;
        Guest guest;
    }

    /** A text that was read: its parts as words in the order in which they are worked off. */
    static class Rule {
        List<String> take = new ArrayList<>();
        List<String> go = new ArrayList<>();
    }

    // What goes on.
    int n, ticks, takings;
    List<Plate> plates = new ArrayList<>();
    Plate[] belt, lane;
    List<Plate> queue = new ArrayList<>();
    List<Seat> seats = new ArrayList<>();
    // What is set.
    int[] colours = {0, 1, 2, 3, 4, 0}, limits = {20, 20, 20, 20, 20, 20}, prices = {100, 100, 100, 100, 100};
    int waste = 50, rule = 0;
    List<Rule> rules = new ArrayList<>();
    List<Integer> tape = new ArrayList<>();
    int[] worths = new int[7];
    int[][] sheets = new int[4][];
    int[] sorts = {-1, -1, -1, -1};

    Oracle(int number) {
        n = 6 + (int) ((number % 7L + 7) % 7);
        belt = new Plate[n];
        lane = new Plate[n];
        for (char c : "take 4 < like + waited ; go room = eaten ;".toCharArray()) {
            tape.add((int) c);
        }
        text();
    }

    /** A copy of all that goes on; what is set is shared. */
    Oracle(Oracle from) {
        n = from.n;
        ticks = from.ticks;
        takings = from.takings;
        belt = new Plate[n];
        lane = new Plate[n];
        for (Plate p : from.plates) {
            plates.add(p.copy());
        }
        for (int i = 0; i < n; i++) {
            belt[i] = from.belt[i] == null ? null : plates.get(from.belt[i].number);
            lane[i] = from.lane[i] == null ? null : plates.get(from.lane[i].number);
        }
        for (Plate p : from.queue) {
            queue.add(plates.get(p.number));
        }
        for (Seat s : from.seats) {
            Seat t = new Seat();
            t.place = s.place;
            t.payer = s.payer;
            if (s.guest != null) {
                t.guest = newGuest(s.guest.kind());
                t.guest.likes = s.guest.likes;
                t.guest.eaten = s.guest.eaten;
                t.guest.waited = s.guest.waited;
            }
            seats.add(t);
        }
        colours = from.colours;
        limits = from.limits;
        prices = from.prices;
        waste = from.waste;
        rule = from.rule;
        rules = from.rules;
    }

    int dish(int dish, int colour, int limit) {
        if (dish < 0 || dish > 5 || colour < 0 || colour > 4 || limit < 1 || limit > 60) return BAD;
        int was = colours[dish];
        colours[dish] = colour;
        limits[dish] = limit;
        return was;
    }

    int price(int colour, int v) {
        if (colour < 0 || colour > 4 || v < 0 || v > 999) return BAD;
        int was = prices[colour];
        prices[colour] = v;
        return was;
    }

    private Plate newPlate(int dish, int state) {
        Plate p = new Plate();
        p.number = plates.size();
        p.dish = dish;
        p.colour = colours[dish];
        p.state = state;
        plates.add(p);
        return p;
    }

    int lay(int dish) {
        if (dish < 0 || dish > 5) return BAD;
        if (belt[0] != null) return STATE;
        if (plates.size() == 300) return FULL;
        belt[0] = newPlate(dish, 0);
        return belt[0].number;
    }

    int plate(int plate, int what) {
        if (plate < 0 || plate >= plates.size() || what < 0 || what > 4) return BAD;
        Plate p = plates.get(plate);
        if (what == 0) return p.dish;
        if (what == 1) return p.colour;
        if (what == 2) return p.age;
        if (what == 3) return p.state;
        for (int i = 0; i < n; i++) {
            if (belt[i] == p || lane[i] == p) return i;
        }
        return p.state == 2 ? p.seat : NONE;
    }

    int at(int place) {
        if (place < 0 || place >= n) return BAD;
        return belt[place] == null ? NONE : belt[place].number;
    }

    int gone(int place) {
        if (place < 0 || place >= n) return BAD;
        if (belt[place] == null) return STATE;
        Plate p = belt[place];
        p.state = 5;
        belt[place] = null;
        return p.number;
    }

    int seat(int place) {
        if (place < 1 || place >= n) return BAD;
        for (Seat s : seats) {
            if (s.place == place) return BAD;
        }
        if (seats.size() == 8) return FULL;
        Seat s = new Seat();
        s.place = place;
        seats.add(s);
        return seats.size() - 1;
    }

    private boolean noSeat(int seat) {
        return seat < 0 || seat >= seats.size();
    }

    private Guest guestOf(int seat) {
        return noSeat(seat) ? null : seats.get(seat).guest;
    }

    int guest(int seat, int kind, int likes) {
        if (noSeat(seat) || kind < 0 || kind > 5 || likes < 0 || likes > 999999) return BAD;
        if (guestOf(seat) != null) return STATE;
        Guest g = newGuest(kind);
        g.likes = likes;
        seats.get(seat).guest = g;
        return 1;
    }

    int seatTold(int seat, int what) {
        if (noSeat(seat) || what < 0 || what > 7) return BAD;
        Seat s = seats.get(seat);
        int number = 0;
        int sum = 0;
        for (Plate p : plates) {
            if (p.state == 2 && p.seat == seat) {
                number++;
                sum += prices[p.colour];
            }
        }
        int[] told = {s.place, -1, -1, -1, -1, number, sum, s.payer};
        if (s.guest != null) {
            told[1] = s.guest.kind();
            told[2] = s.guest.eaten;
            told[3] = s.guest.waited;
            told[4] = s.guest.room();
        }
        return told[what];
    }

    long liking(int seat, int plate) {
        if (guestOf(seat) == null || plate < 0 || plate >= plates.size()) return NO;
        return guestOf(seat).liking(plates.get(plate));
    }

    int pays(int a, int b) {
        if (noSeat(a) || b != -1 && noSeat(b) || a == b) return BAD;
        if (guestOf(a) == null || b != -1 && guestOf(b) == null) return -5;
        int was = seats.get(a).payer;
        seats.get(a).payer = b;
        return was;
    }

    int putBack(int seat) {
        if (noSeat(seat)) return BAD;
        Guest g = guestOf(seat);
        if (g == null || g.took == null || belt[seats.get(seat).place] != null) return STATE;
        Plate p = g.took;
        g.took = null;
        g.eaten--;
        p.state = 0;
        belt[seats.get(seat).place] = p;
        return p.number;
    }

    int feed(int k, long bytes) {
        if (k < 1 || k > 8) return BAD;
        if (tape.size() + k > 160) return FULL;
        for (int i = 0; i < k; i++) {
            tape.add((int) (bytes & 255));
            bytes >>= 8;
        }
        return tape.size();
    }

    // ---- texts

    private static final String NAMES = " like age waited eaten price room ";

    private List<String> words;
    private List<Integer> starts;

    private static boolean letter(int c) {
        return "abcdefghijklmnopqrstuvwxyz".indexOf(c) >= 0;
    }

    private static boolean digit(int c) {
        return "0123456789".indexOf(c) >= 0;
    }

    private void split() {
        words = new ArrayList<>();
        starts = new ArrayList<>();
        int i = 0;
        while (i < tape.size()) {
            int c = tape.get(i);
            int start = i++;
            String word = "" + (char) c;
            if (c == 32 || c == 10) continue;
            while (i < tape.size() && (letter(c) && letter(tape.get(i)) || digit(c) && digit(tape.get(i)))) {
                word += (char) (int) tape.get(i++);
            }
            words.add(word);
            starts.add(start);
        }
        words.add("end");
        starts.add(tape.size());
    }

    int text() {
        if (rules.size() == 6) return FULL;
        split();
        tape.clear();
        Rule r = new Rule();
        String[] heads = {"take", "go"};
        int at = 0;
        for (String head : heads) {
            if (!words.get(at).equals(head) || starts.size() == at + 1) return -100 - starts.get(at);
            at = expression(at + 1, head.equals("take") ? r.take : r.go);
            if (at < 0) return at;
        }
        // A word "end" may stand in the text itself; the end alone is the last one.
        if (at != words.size() - 1) return -100 - starts.get(at);
        rules.add(r);
        return rules.size() - 1;
    }

    private static int rank(String sign) {
        switch (sign) {
            case "or": return 1;
            case "and": return 2;
            case "not": return 3;
            case "<": case "=": return 4;
            case "+": case "-": return 5;
            case "*": return 6;
            case "neg": return 7;
            default: return 0;
        }
    }

    private static int openOnes(Deque<String> stack) {
        int open = 0;
        for (String s : stack) {
            if (s.equals("(") || s.equals("not") || s.equals("neg")) open++;
        }
        return open;
    }

    private static void popTo(int rank, Deque<String> stack, List<String> out) {
        while (!stack.isEmpty() && !stack.peek().equals("(") && rank(stack.peek()) >= rank) {
            out.add(stack.pop());
        }
    }

    /** Reads an E and its ; by two stacks: the place behind it, or -100 less the fault's place. */
    private int expression(int at, List<String> out) {
        Deque<String> stack = new ArrayDeque<>();
        boolean operand = true;
        for (; at < words.size(); at++) {
            String w = words.get(at);
            boolean last = at == words.size() - 1;
            int fault = -100 - starts.get(at);
            if (last) return fault;
            String top = stack.isEmpty() ? "(" : stack.peek();
            if (operand) {
                if (NAMES.contains(" " + w + " ") || digit(w.charAt(0)) && w.length() <= 4) {
                    out.add(w);
                    popTo(7, stack, out);
                    operand = false;
                } else if (w.equals("-") || w.equals("(") || w.equals("not") && rank(top) <= 3) {
                    if (openOnes(stack) == 5) return fault;
                    stack.push(w.equals("-") ? "neg" : w);
                } else {
                    return fault;
                }
            } else if (w.equals(")")) {
                popTo(0, stack, out);
                if (stack.isEmpty()) return fault;
                stack.pop();
                popTo(7, stack, out);
            } else if (w.equals(";")) {
                popTo(0, stack, out);
                return stack.isEmpty() ? at + 1 : fault;
            } else if ("or and < = + - *".contains(w) && rank(w) > 0 && !w.equals("not")) {
                int rank = rank(w);
                popTo(rank == 4 ? 5 : rank, stack, out);
                if (rank == 4 && !stack.isEmpty() && rank(stack.peek()) == 4) return fault;
                stack.push(w);
                operand = true;
            } else {
                return fault;
            }
        }
        return -100 - starts.get(words.size() - 1);
    }

    private int work(List<String> part, Guest g, Plate p) {
        Deque<Integer> s = new ArrayDeque<>();
        for (String w : part) {
            if (w.equals("not")) {
                s.push(s.pop() == 0 ? 1 : 0);
            } else if (w.equals("neg")) {
                s.push(-s.pop());
            } else if (rank(w) > 0) {
                int b = s.pop();
                int a = s.pop();
                s.push(joined(w, a, b));
            } else if (digit(w.charAt(0))) {
                s.push(Integer.parseInt(w));
            } else {
                s.push(named(w, g, p));
            }
        }
        return s.pop();
    }

    private static int joined(String w, int a, int b) {
        switch (w) {
            case "or": return (a == 0 ? 0 : 1) | (b == 0 ? 0 : 1);
            case "and": return (a == 0 ? 0 : 1) & (b == 0 ? 0 : 1);
            case "<": return a < b ? 1 : 0;
            case "=": return a == b ? 1 : 0;
            case "+": return a + b;
            case "-": return a - b;
            default: return a * b;
        }
    }

    private int named(String w, Guest g, Plate p) {
        switch (w) {
            case "waited": return g.waited;
            case "eaten": return g.eaten;
            case "room": return g.room();
            case "like": return p == null ? 0 : g.liking(p);
            case "age": return p == null ? 0 : p.age;
            default: return p == null ? 0 : prices[p.colour];
        }
    }

    int force(int text) {
        if (text < 0 || text >= rules.size()) return BAD;
        int was = rule;
        rule = text;
        return was;
    }

    long says(int seat, int plate, int part) {
        Guest g = guestOf(seat);
        if (g == null || part < 0 || part > 1) return NO;
        if (part == 1) return work(rules.get(rule).go, g, null);
        if (plate < 0 || plate >= plates.size()) return NO;
        return work(rules.get(rule).take, g, plates.get(plate));
    }

    // ---- ticks

    int tick(int k) {
        if (k < 1 || k > 60) return BAD;
        if (ticks + k > 9999) return FULL;
        int eaten = 0;
        for (int i = 0; i < k; i++) {
            eaten += oneTick()[0];
        }
        return eaten;
    }

    /** How many were eaten, what they cost, how many were thrown. */
    private int[] oneTick() {
        int[] sums = new int[3];
        ticks++;
        for (Plate p : lane) {
            if (p != null) p.age++;
        }
        Plate[] turned = new Plate[n];
        for (int i = 0; i < n; i++) {
            turned[(i + 1) % n] = belt[i];
            if (belt[i] != null) belt[i].age++;
        }
        belt = turned;
        if (belt[0] != null && belt[0].age > limits[belt[0].dish]) {
            belt[0].state = 4;
            belt[0] = null;
            sums[2]++;
        }
        for (int c = n - 1; c >= 0; c--) {
            Plate p = lane[c];
            if (p == null) continue;
            Seat s = seats.get(p.seat);
            if (s.place == c && s.guest == null) {
                p.state = 4;
                lane[c] = null;
                sums[2]++;
            } else if (s.place != c && lane[c + 1] == null) {
                lane[c + 1] = p;
                lane[c] = null;
            }
        }
        if (lane[0] == null && !queue.isEmpty()) lane[0] = queue.remove(0);
        for (int i = 0; i < seats.size(); i++) {
            if (seats.get(i).guest != null) serve(i, sums);
        }
        for (int i = 0; i < seats.size(); i++) {
            Seat s = seats.get(i);
            if (s.guest != null && work(rules.get(rule).go, s.guest, null) != 0) leave(i);
        }
        return sums;
    }

    private void serve(int i, int[] sums) {
        Seat s = seats.get(i);
        Guest g = s.guest;
        g.took = null;
        Plate p = lane[s.place];
        if (p != null && p.seat == i) {
            lane[s.place] = null;
        } else {
            p = belt[s.place];
            if (p == null || work(rules.get(rule).take, g, p) == 0) {
                g.waited++;
                return;
            }
            belt[s.place] = null;
            g.took = p;
        }
        p.state = 2;
        p.seat = i;
        g.eaten++;
        g.waited = 0;
        sums[0]++;
        sums[1] += prices[p.colour];
    }

    private void leave(int i) {
        Seat s = seats.get(i);
        for (Plate p : plates) {
            if (p.state == 2 && p.seat == i) {
                if (s.payer == NONE) {
                    p.state = 3;
                    takings += prices[p.colour];
                } else {
                    p.seat = s.payer;
                }
            }
        }
        s.guest = null;
        s.payer = NONE;
        for (Seat other : seats) {
            if (other.payer == i) other.payer = NONE;
        }
    }

    int order(int seat, int dish) {
        if (noSeat(seat) || dish < 0 || dish > 5) return BAD;
        if (guestOf(seat) == null) return STATE;
        if (queue.size() == 16 || plates.size() == 300) return FULL;
        Plate p = newPlate(dish, 1);
        p.seat = seat;
        queue.add(p);
        return p.number;
    }

    int lane(int cell) {
        if (cell < 0 || cell >= n) return BAD;
        return lane[cell] == null ? NONE : lane[cell].seat;
    }

    int empties(int colour, int what) {
        if (colour < 0 || colour > 4 || what < 0 || what > 6) return BAD;
        int sum = 0;
        for (Plate p : plates) {
            if (p.colour == colour && (what == 0 || p.state == what - 1)) sum++;
        }
        return sum;
    }

    int waste(int v) {
        if (v < 0 || v > 999) return BAD;
        int was = waste;
        waste = v;
        return was;
    }

    // ---- ahead

    private long best;
    private int[] bestRow;

    private void look(int k, int t) {
        best = Long.MIN_VALUE;
        int rows = (int) Math.pow(7, k);
        for (int row = 0; row < rows; row++) {
            String digits = Integer.toString(row + rows, 7).substring(1);
            if (rows == 7 && row >= 7) break;
            Oracle o = new Oracle(this);
            long worth = 0;
            for (int i = 0; i < k + t; i++) {
                if (i < k && digits.charAt(i) != '6') o.lay(digits.charAt(i) - '0');
                int[] sums = o.oneTick();
                worth += sums[1] - sums[2] * waste;
            }
            if (worth > best) {
                best = worth;
                bestRow = new int[k];
                for (int i = 0; i < k; i++) {
                    bestRow[i] = digits.charAt(i) - '0';
                }
            }
        }
    }

    int ahead(int k, int t, int i) {
        if (k < 1 || k > 3 || t < 0 || t > 24 || i < 0 || i >= k) return BAD;
        look(k, t);
        return bestRow[i];
    }

    long worth(int k, int t) {
        if (k < 1 || k > 3 || t < 0 || t > 24) return NO;
        look(k, t);
        return best;
    }

    // ---- fish

    int piece(int length, int v) {
        if (length < 1 || length > 6 || v < 0 || v > 999) return BAD;
        int was = worths[length];
        worths[length] = v;
        return was;
    }

    /** For each length: what the best row brings and the row, all but the first piece being whole. */
    private List<Integer> bestBehind(int left, boolean first, List<List<Integer>> behind) {
        List<Integer> found = null;
        for (int p = 1; p <= Math.min(6, left); p++) {
            List<Integer> row = new ArrayList<>();
            List<Integer> rest = behind.get(left - p);
            row.add((first || p == left ? worths[p] / 2 : worths[p]) + rest.get(0));
            row.add(p);
            row.addAll(rest.subList(1, rest.size()));
            if (found == null || row.get(0) > found.get(0)) found = row;
        }
        return found;
    }

    int cut(int length, int i) {
        if (length < 1 || length > 30) return BAD;
        List<List<Integer>> behind = new ArrayList<>();
        behind.add(List.of(0));
        for (int left = 1; left < length; left++) {
            behind.add(bestBehind(left, false, behind));
        }
        List<Integer> row = bestBehind(length, true, behind);
        return i < -1 || i > row.size() - 2 ? NONE : row.get(i + 1);
    }

    int count(int what) {
        int guests = 0;
        for (Seat s : seats) {
            if (s.guest != null) guests++;
        }
        int trays = 0;
        for (Plate p : lane) {
            if (p != null) trays++;
        }
        int[] told = {n, plates.size(), seats.size(), guests, ticks, trays, queue.size(), takings, rules.size(), tape.size(), rule};
        return what < 0 || what > 10 ? BAD : told[what];
    }

    // ---- the host

    int sheet(int sheet, int sort, int k) {
        if (sheet < 0 || sheet > 3 || sort < -1 || sort > 2) return BAD;
        if (sort != -1 && k > 40) return BAD;
        if (sort != -1 && k < 0) return -14;
        sorts[sheet] = sort;
        sheets[sheet] = sort == -1 ? null : new int[k];
        return 1;
    }

    int cell(int sheet, int i, int v) {
        if (sheet < 0 || sheet > 3) return BAD;
        if (sheets[sheet] == null) return -11;
        if (i < 0 || i >= sheets[sheet].length) return -12;
        sheets[sheet][i] = sorts[sheet] == 0 ? v << 24 >> 24 : sorts[sheet] == 1 ? v << 16 >> 16 : v;
        return 1;
    }

    int lays(int sheet, int sort, int from, int k) {
        if (sheet < 0 || sheet > 3 || sort < 0 || sort > 2 || k < 0 || k > 24) return BAD;
        if (ticks + k > 9999) return FULL;
        if (sheets[sheet] == null) return -11;
        if (sorts[sheet] != sort) return -13;
        int laid = 0;
        for (long i = from; i < (long) from + k; i++) {
            if (i < 0 || i >= sheets[sheet].length) return -12;
            if (lay(sheets[sheet][(int) i]) >= 0) laid++;
            oneTick();
        }
        return laid;
    }

    int taken(int seat, int k) {
        if (k < 0 || k > 5) return BAD;
        Guest g = guestOf(seat);
        if (g == null) return -11;
        return g.is(k) ? g.eaten : -13;
    }
}
