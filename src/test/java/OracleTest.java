/** Long runs of calls, the same each time, on PlateRound and on the Oracle: all answers are alike. */
public final class OracleTest {
    private static final String[] SOME = {"0", "1", "2", "7", "0012", "9999", "like", "age", "waited", "eaten", "price", "room"};
    private static final String[] SIGNS = {" or ", " and ", "<", "=", "+", "-", "*", " + ", "\n* "};
    private static final String[] BROKEN = {"take", "go", ";", ")", "(", "not", "x", "10000", "end", "#", "A", "<", "=", "or", "-", " "};

    private long seed;
    private PlateRound x;
    private Oracle o;
    private String run;
    private int made;
    // A kept run tends to make what later calls need.
    private boolean mild;

    public static void main(String[] args) {
        int runs = args.length > 0 ? Integer.parseInt(args[0]) : 260;
        int from = args.length > 1 ? Integer.parseInt(args[1]) : 0;
        for (int i = from; i < from + runs; i++) {
            new OracleTest().run(i);
        }
        for (int i = from; i < from + runs; i++) {
            new OracleTest().texts(i);
        }
        Due.end();
    }

    private int any(int bound) {
        seed = seed * 6364136223846793005L + 1442695040888963407L;
        return (int) ((seed >>> 33) % bound);
    }

    // A number from..to, now and then one outside.
    private int within(int from, int to) {
        if (!mild && any(12) == 0) {
            int[] edges = {from - 1, to + 1, -1, 0, from, to, Integer.MAX_VALUE, Integer.MIN_VALUE};
            return edges[any(edges.length)];
        }
        return from + any(to - from + 1);
    }

    // A seat that there is, now and then another one.
    private int seat() {
        int seats = o.count(2);
        return seats > 0 && any(10) > 0 ? any(seats) : within(0, 7);
    }

    private int place() {
        return any(10) > 0 ? any(o.count(0)) : within(0, 13);
    }

    private void check(String call, long got, long want) {
        made++;
        Due.is("run " + run + ", call " + made + ": " + call, got, want);
    }

    private void run(int number) {
        seed = number * 7919L + 17;
        any(2);
        int places = any(40) - 20;
        run = "" + number;
        x = new PlateRound(places);
        o = new Oracle(places);
        mild = number % 3 != 0;
        prepare(number);
        while (made < 450) {
            step(number);
        }
        look();
    }

    private void prepare(int number) {
        for (int i = number % 10; i > 0; i--) {
            int place = place();
            check("seat(" + place + ")", x.seat(place), o.seat(place));
        }
        for (int i = 0; i < 8; i++) {
            guest();
        }
        if (number % 4 != 0) {
            String[] rules = {"take 1;go eaten=room;", "take 3<like;go 9<waited;", "take age<like+waited and price<200;go eaten*3<waited+1;",
                "take not(like=0)or 2<waited;go 0<eaten and room-1<eaten;", "take waited-like*2;go 0;", "take 0;go eaten+waited=4;"};
            feed(rules[any(rules.length)]);
            check("text()", x.text(), o.text());
            check("force(1)", x.force(1), o.force(1));
        }
        if (any(2) == 0) {
            for (int colour = 0; colour < 5; colour++) {
                int price = any(300);
                check("price", x.price(colour, price), o.price(colour, price));
            }
        }
    }

    private void guest() {
        int a = seat(), b = within(0, 5), c = any(3) == 0 ? within(0, 999999) : 111111 * any(10);
        check("guest(" + a + ", " + b + ", " + c + ")", x.guest(a, b, c), o.guest(a, b, c));
    }

    private void feed(String text) {
        for (int from = 0; from < text.length(); from += 8) {
            int n = Math.min(8, text.length() - from);
            long bytes = Due.packed(text, from, n);
            check("feed('" + text + "', " + from + ")", x.feed(n, bytes), o.feed(n, bytes));
        }
    }

    private void step(int number) {
        switch (any(24)) {
            case 0: case 1: lay(); break;
            case 2: case 3: case 4: layAndTick(); break;
            case 5: tick(); break;
            case 6: case 7: order(); break;
            case 8: case 9: guest(); break;
            case 10: case 11: layAndTick(); putBack(); break;
            case 12: case 13: pays(); break;
            case 14: host(); break;
            case 15: house(); break;
            case 16: fish(); break;
            case 17: if (any(4) == 0) ahead(); break;
            case 18: if (any(3) == 0) newText(); break;
            case 19: if (number % 2 == 0) gone(); break;
            default: told(); break;
        }
    }

    private void lay() {
        int a = within(0, 5);
        check("lay(" + a + ")", x.lay(a), o.lay(a));
    }

    private void layAndTick() {
        lay();
        check("tick(1)", x.tick(1), o.tick(1));
    }

    private void tick() {
        int a = any(4) == 0 ? within(1, 60) : within(1, 4);
        check("tick(" + a + ")", x.tick(a), o.tick(a));
    }

    private void order() {
        int a = seat(), b = within(0, 5);
        check("order(" + a + ", " + b + ")", x.order(a, b), o.order(a, b));
    }

    private void putBack() {
        int a = seat();
        for (int i = 0; i < o.count(2); i++) {
            if (o.seatTold(i, 3) == 0 && o.seatTold(i, 2) > 0) {
                a = i;
            }
        }
        check("putBack(" + a + ")", x.putBack(a), o.putBack(a));
        if (any(4) == 0) {
            check("putBack(" + a + ") again", x.putBack(a), o.putBack(a));
        }
    }

    private void pays() {
        int a = seat(), b = any(5) == 0 ? within(-1, 7) : seat();
        check("pays(" + a + ", " + b + ")", x.pays(a, b), o.pays(a, b));
    }

    private void gone() {
        int a = place();
        check("gone(" + a + ")", x.gone(a), o.gone(a));
    }

    private void host() {
        int a = within(0, 3), b = within(0, 2), c = within(0, 40), d = within(0, 8);
        switch (any(6)) {
            case 0:
                int sort = any(4) == 0 ? -1 : b;
                check("sheet(" + a + ", " + sort + ", " + c + ")", x.sheet(a, sort, c), o.sheet(a, sort, c));
                break;
            case 1: case 2: case 3:
                int v = d + (any(5) == 0 ? 256 * any(300) : 0);
                check("cell(" + a + ", " + c + ", " + v + ")", x.cell(a, c, v), o.cell(a, c, v));
                break;
            default:
                if (any(2) == 0 && o.sheets[Math.floorMod(a, 4)] != null) {
                    b = o.sorts[Math.floorMod(a, 4)];
                }
                int from = c / 2;
                check("lays(" + a + ", " + b + ", " + from + ", " + d + ")", x.lays(a, b, from, d), o.lays(a, b, from, d));
        }
    }

    private void house() {
        int a = within(0, 5), b = within(0, 4), c = within(1, 60), d = within(0, 999);
        switch (any(5)) {
            case 0: check("price(" + b + ", " + d + ")", x.price(b, d), o.price(b, d)); break;
            case 1: check("waste(" + d + ")", x.waste(d), o.waste(d)); break;
            case 2:
                int text = within(0, 5);
                check("force(" + text + ")", x.force(text), o.force(text));
                break;
            default: check("dish(" + a + ", " + b + ", " + c + ")", x.dish(a, b, c), o.dish(a, b, c)); break;
        }
    }

    private void fish() {
        int a = within(1, 6), b = within(0, any(2) == 0 ? 999 : 9), c = within(1, 30), d = within(-1, 12);
        check("piece(" + a + ", " + b + ")", x.piece(a, b), o.piece(a, b));
        check("cut(" + c + ", -1)", x.cut(c, -1), o.cut(c, -1));
        check("cut(" + c + ", " + d + ")", x.cut(c, d), o.cut(c, d));
    }

    private void ahead() {
        int k = any(4) == 0 ? within(1, 3) : within(1, 2), t = within(0, 24), i = within(0, 2);
        check("worth(" + k + ", " + t + ")", x.worth(k, t), o.worth(k, t));
        check("ahead(" + k + ", " + t + ", " + i + ")", x.ahead(k, t, i), o.ahead(k, t, i));
    }

    private void newText() {
        feed("take " + expression(2) + ";go " + expression(1) + ";");
        check("text()", x.text(), o.text());
    }

    private String expression(int depth) {
        StringBuilder b = new StringBuilder();
        for (int i = any(3); i >= 0; i--) {
            int sort = any(depth > 0 ? 6 : 3);
            if (sort == 5) {
                b.append("(").append(expression(depth - 1)).append(")");
            } else if (sort == 4) {
                b.append("-");
                b.append(SOME[any(SOME.length)]);
            } else {
                b.append(sort == 3 ? "not " : "").append(SOME[any(SOME.length)]);
            }
            if (i > 0) {
                b.append(SIGNS[any(SIGNS.length)]);
            }
        }
        return b.toString();
    }

    private void told() {
        int a = seat(), here = place(), plates = o.count(1), p = within(0, Math.max(plates, 1)), w = within(0, 10);
        switch (any(10)) {
            case 0: check("at(" + here + ")", x.at(here), o.at(here)); break;
            case 1: check("plate(" + p + ", " + w % 5 + ")", x.plate(p, w % 5), o.plate(p, w % 5)); break;
            case 2: check("seatTold(" + a + ", " + w + ")", x.seatTold(a, w), o.seatTold(a, w)); break;
            case 3: check("liking(" + a + ", " + p + ")", x.liking(a, p), o.liking(a, p)); break;
            case 4: check("says(" + a + ", " + p + ", " + w % 2 + ")", x.says(a, p, w % 2), o.says(a, p, w % 2)); break;
            case 5: check("lane(" + here + ")", x.lane(here), o.lane(here)); break;
            case 6: check("empties(" + a % 5 + ", " + w + ")", x.empties(a % 5, w), o.empties(a % 5, w)); break;
            case 7: check("taken(" + a + ", " + w % 6 + ")", x.taken(a, w % 6), o.taken(a, w % 6)); break;
            default: check("count(" + w + ")", x.count(w), o.count(w)); break;
        }
    }

    // The whole state, in the calls that are left of 512.
    private void look() {
        for (int what = 0; what < 11 && made < 512; what++) {
            check("count(" + what + ")", x.count(what), o.count(what));
        }
        for (int i = 0; made < 512; i++) {
            int p = Math.max(0, o.count(1) - 1 - i / 2);
            int what = 3 + i % 2;
            check("plate(" + p + ", " + what + ")", x.plate(p, what), o.plate(p, what));
        }
    }

    // Texts alone: good ones, ones that were cut short, and ones with a token put in.
    private void texts(int number) {
        seed = number * 104729L + 5;
        run = "of texts " + number;
        x = new PlateRound(0);
        o = new Oracle(0);
        while (made < 440) {
            String text = "take " + expression(any(5)) + ";go " + expression(any(3)) + ";";
            int place = any(text.length() + 1);
            switch (any(4)) {
                case 0: text = text.substring(0, place); break;
                case 1: case 2: text = text.substring(0, place) + BROKEN[any(BROKEN.length)] + text.substring(place); break;
                default:
                    String deep = "";
                    for (int i = 3 + any(4); i > 0; i--) {
                        deep += new String[] {"not ", "-", "(", "1+(", "2<-", "like*-", "not("}[any(7)];
                    }
                    text = "take " + deep + text.substring(5);
                    break;
            }
            feed(text);
            check("text() of '" + text + "'", x.text(), o.text());
            if (o.count(8) == 6) {
                valuesOfTexts();
                x = new PlateRound(0);
                o = new Oracle(0);
                made = 0;
                if (any(3) == 0) {
                    return;
                }
            }
        }
    }

    private void valuesOfTexts() {
        x.seat(1);
        o.seat(1);
        x.guest(0, 4, 123456);
        o.guest(0, 4, 123456);
        x.lay(3);
        o.lay(3);
        for (int i = 0; i < 6; i++) {
            check("force(" + i + ")", x.force(i), o.force(i));
            check("says take", x.says(0, 0, 0), o.says(0, 0, 0));
            check("says go", x.says(0, 0, 1), o.says(0, 0, 1));
        }
    }
}
