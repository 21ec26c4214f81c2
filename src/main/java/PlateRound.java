import java.util.Arrays;

/**
 * A belt on which dishes ride past seats: guests of kinds who take and go by a text, trays on an
 * upper lane, bills, what is missing, layings looked ahead, and fish cut into pieces.
 *
 * The names follow ../shared/DOC.md. No call throws: what is refused is answered by a number.
 */
public final class PlateRound {
    public static final int NONE = -1, BAD = -2, STATE = -3, FULL = -4;
    public static final long NO = -4611686018427387904L;

    private static final int NOBODY_SITS = -5;
    private static final int NOTHING = -11;
    private static final int OUTSIDE = -12;
    private static final int OTHER_SORT = -13;
    private static final int BELOW_ZERO = -14;
    private static final int FAULTS_FROM = -100;
    private static final int DONE = 1;

    private static final int DISHES = 6;
    private static final int COLOURS = 5;
    private static final int MOST_MONEY = 999;
    private static final int MOST_LIMIT = 60;
    private static final int MOST_PLATES = 300;
    private static final int MOST_SEATS = 8;
    private static final int MOST_WAITING = 16;
    private static final int MOST_LIKES = 999999;
    private static final int MOST_TICKS = 9999;
    private static final int MOST_TICKS_A_CALL = 60;
    private static final int MOST_LAYINGS = 24;
    private static final int MOST_BYTES = 160;
    private static final int MOST_TEXTS = 6;

    private final Menu menu = new Menu();
    private final Rules rules = new Rules();
    private final Reader tape = new Reader();
    private final Fish fish = new Fish();
    private final Sheets sheets = new Sheets();
    private final Round round;
    private final Foresight foresight;

    public PlateRound(int places) {
        int size = 6 + Math.floorMod(places, 7);
        round = new Round(size, menu, rules);
        foresight = new Foresight(size, menu, rules);
    }

    private static boolean within(int number, int least, int most) {
        return number >= least && number <= most;
    }

    private static boolean isDish(int number) {
        return number >= 0 && number < DISHES;
    }

    private static boolean isColour(int number) {
        return number >= 0 && number < COLOURS;
    }

    // The index of the first item that is the number, or NONE.
    private static int find(int[] row, int number) {
        for (int i = 0; i < row.length; i++) {
            if (row[i] == number) {
                return i;
            }
        }
        return NONE;
    }

    public int dish(int dish, int colour, int limit) {
        if (!isDish(dish) || !isColour(colour) || !within(limit, 1, MOST_LIMIT)) {
            return BAD;
        }
        int was = menu.colours[dish];
        menu.colours[dish] = colour;
        menu.limits[dish] = limit;
        return was;
    }

    public int price(int colour, int n) {
        if (!isColour(colour) || !within(n, 0, MOST_MONEY)) {
            return BAD;
        }
        int was = menu.prices[colour];
        menu.prices[colour] = n;
        return was;
    }

    public int lay(int dish) {
        return round.layAtHatch(dish);
    }

    public int plate(int plate, int what) {
        Plates plates = round.plates;
        if (!plates.has(plate)) {
            return BAD;
        }
        switch (what) {
            case 0: return plates.dishes[plate];
            case 1: return plates.colours[plate];
            case 2: return plates.ages[plate];
            case 3: return plates.states[plate];
            case 4: return round.whereIs(plate);
            default: return BAD;
        }
    }

    public int at(int place) {
        return round.isPlace(place) ? round.belt[place] : BAD;
    }

    public int gone(int place) {
        if (!round.isPlace(place)) {
            return BAD;
        }
        int plate = round.belt[place];
        if (plate == NONE) {
            return STATE;
        }
        round.belt[place] = NONE;
        round.plates.become(plate, Plates.GONE, NONE);
        return plate;
    }

    public int seat(int place) {
        if (!round.isPlace(place) || place == 0 || round.seats.hasOneAt(place)) {
            return BAD;
        }
        return round.seats.add(place);
    }

    public int guest(int seat, int kind, int likes) {
        Seats seats = round.seats;
        if (!seats.has(seat) || !Seats.isKind(kind) || !within(likes, 0, MOST_LIKES)) {
            return BAD;
        }
        if (seats.isTaken(seat)) {
            return STATE;
        }
        seats.welcome(seat, kind, likes);
        return DONE;
    }

    public int seatTold(int seat, int what) {
        Seats seats = round.seats;
        if (!seats.has(seat)) {
            return BAD;
        }
        switch (what) {
            case 0: return seats.places[seat];
            case 5: return round.plates.onBill(seat);
            case 6: return round.plates.billOf(seat, menu);
            case 7: return seats.payers[seat];
            default: return guestTold(seat, what);
        }
    }

    private int guestTold(int seat, int what) {
        if (!within(what, 1, 4)) {
            return BAD;
        }
        Seats seats = round.seats;
        if (!seats.isTaken(seat)) {
            return NONE;
        }
        switch (what) {
            case 1: return seats.kinds[seat];
            case 2: return seats.eaten[seat];
            case 3: return seats.waited[seat];
            default: return seats.roomOf(seat);
        }
    }

    public long liking(int seat, int plate) {
        if (!round.seats.isTaken(seat) || !round.plates.has(plate)) {
            return NO;
        }
        return round.likingOf(seat, plate);
    }

    public int pays(int a, int b) {
        Seats seats = round.seats;
        if (!seats.has(a) || a == b || (b != NONE && !seats.has(b))) {
            return BAD;
        }
        if (!seats.isTaken(a) || (b != NONE && !seats.isTaken(b))) {
            return NOBODY_SITS;
        }
        int was = seats.payers[a];
        seats.payers[a] = b;
        return was;
    }

    public int putBack(int seat) {
        return round.seats.has(seat) ? round.returnPlate(seat) : BAD;
    }

    public int feed(int n, long bytes) {
        return within(n, 1, 8) ? tape.append(n, bytes) : BAD;
    }

    public int text() {
        if (rules.areFull()) {
            return FULL;
        }
        boolean good = tape.readAll();
        tape.size = 0;
        return good ? rules.add(tape.copyOfText()) : FAULTS_FROM - tape.fault;
    }

    public int force(int text) {
        return rules.choose(text);
    }

    public long says(int seat, int plate, int part) {
        if (!round.seats.isTaken(seat)) {
            return NO;
        }
        if (part == Text.GO) {
            return round.goValue(seat);
        }
        if (part != Text.TAKE || !round.plates.has(plate)) {
            return NO;
        }
        return round.takeValue(seat, plate);
    }

    public int tick(int n) {
        if (!within(n, 1, MOST_TICKS_A_CALL)) {
            return BAD;
        }
        if (round.ticks + n > MOST_TICKS) {
            return FULL;
        }
        round.meals = 0;
        for (int i = 0; i < n; i++) {
            round.goByOnce();
        }
        return round.meals;
    }

    public int order(int seat, int dish) {
        if (!round.seats.has(seat) || !isDish(dish)) {
            return BAD;
        }
        if (!round.seats.isTaken(seat)) {
            return STATE;
        }
        return round.sendTray(seat, dish);
    }

    public int lane(int cell) {
        if (!round.isPlace(cell)) {
            return BAD;
        }
        int plate = round.lane.cells[cell];
        return round.plates.has(plate) ? round.plates.seats[plate] : NONE;
    }

    public int empties(int colour, int what) {
        if (!isColour(colour) || !within(what, 0, 6)) {
            return BAD;
        }
        Plates plates = round.plates;
        switch (what) {
            case 0: return plates.madeOf(colour);
            case 6: return plates.missing(colour);
            default: return plates.inState(colour, what - 1);
        }
    }

    public int waste(int n) {
        if (!within(n, 0, MOST_MONEY)) {
            return BAD;
        }
        int was = menu.waste;
        menu.waste = n;
        return was;
    }

    public int ahead(int k, int t, int i) {
        if (!Foresight.canLook(k, t) || !within(i, 0, k - 1)) {
            return BAD;
        }
        foresight.look(round, k, t);
        return foresight.best[i];
    }

    public long worth(int k, int t) {
        if (!Foresight.canLook(k, t)) {
            return NO;
        }
        foresight.look(round, k, t);
        return foresight.bestGain;
    }

    public int piece(int length, int n) {
        if (!within(length, 1, Fish.LONGEST_PIECE) || !within(n, 0, MOST_MONEY)) {
            return BAD;
        }
        int was = fish.worths[length];
        fish.worths[length] = n;
        return was;
    }

    public int cut(int length, int i) {
        if (!within(length, 1, Fish.LONGEST)) {
            return BAD;
        }
        fish.plan(length);
        if (i == -1) {
            return fish.brings;
        }
        return within(i, 0, fish.pieces - 1) ? fish.row[i] : NONE;
    }

    public int count(int what) {
        switch (what) {
            case 0: return round.belt.length;
            case 1: return round.plates.made;
            case 2: return round.seats.made;
            case 3: return round.seats.guests();
            case 4: return round.ticks;
            case 5: return round.lane.trays();
            case 6: return round.lane.waits;
            case 7: return round.takings;
            case 8: return rules.made;
            case 9: return tape.size;
            case 10: return rules.chosen;
            default: return BAD;
        }
    }

    public int sheet(int sheet, int sort, int n) {
        if (!Sheets.isSheet(sheet)) {
            return BAD;
        }
        if (sort == Sheets.MISSING) {
            sheets.remove(sheet);
            return DONE;
        }
        if (!Sheets.isSort(sort) || n > Sheets.MOST_ITEMS) {
            return BAD;
        }
        if (n < 0) {
            return BELOW_ZERO;
        }
        sheets.make(sheet, sort, n);
        return DONE;
    }

    public int cell(int sheet, int i, int v) {
        if (!Sheets.isSheet(sheet)) {
            return BAD;
        }
        if (sheets.sorts[sheet] == Sheets.MISSING) {
            return NOTHING;
        }
        if (!sheets.hasItem(sheet, i)) {
            return OUTSIDE;
        }
        sheets.put(sheet, i, v);
        return DONE;
    }

    public int lays(int sheet, int sort, int from, int n) {
        if (!Sheets.isSheet(sheet) || !Sheets.isSort(sort) || !within(n, 0, MOST_LAYINGS)) {
            return BAD;
        }
        if (round.ticks + n > MOST_TICKS) {
            return FULL;
        }
        int is = sheets.sorts[sheet];
        if (is == Sheets.MISSING) {
            return NOTHING;
        }
        return is == sort ? layRow(sheet, from, n) : OTHER_SORT;
    }

    private int layRow(int sheet, int from, int n) {
        int laid = 0;
        for (int i = 0; i < n; i++) {
            if (!sheets.hasItem(sheet, from + i)) {
                return OUTSIDE;
            }
            if (round.layAtHatch(sheets.items[sheet][from + i]) >= 0) {
                laid++;
            }
            round.goByOnce();
        }
        return laid;
    }

    public int taken(int seat, int k) {
        if (!Seats.isKind(k)) {
            return BAD;
        }
        Seats seats = round.seats;
        if (!seats.isTaken(seat)) {
            return NOTHING;
        }
        return Seats.isUnder(seats.kinds[seat], k) ? seats.eaten[seat] : OTHER_SORT;
    }

    /** What the house has set: of DISHES the COLOUR and LIMIT, of COLOURS the PRICE, and WASTE. */
    private static final class Menu {
        final int[] colours = {0, 1, 2, 3, 4, 0};
        final int[] limits = {20, 20, 20, 20, 20, 20};
        final int[] prices = {100, 100, 100, 100, 100};
        int waste = 50;
    }

    /** All PLATES that were ever made. */
    private static final class Plates {
        static final int ON_BELT = 0, ON_TRAY = 1, EATEN = 2, PAID = 3, THROWN = 4, GONE = 5;

        final int[] dishes = new int[MOST_PLATES];
        final int[] colours = new int[MOST_PLATES];
        final int[] ages = new int[MOST_PLATES];
        final int[] states = new int[MOST_PLATES];
        // Of a tray: the seat that it is for. Of an eaten plate: the seat on whose bill it is.
        final int[] seats = new int[MOST_PLATES];
        int made = 0;

        boolean has(int plate) {
            return plate >= 0 && plate < made;
        }

        boolean areFull() {
            return made >= MOST_PLATES;
        }

        int make(int dish, int colour, int state, int seat) {
            int plate = made;
            if (areFull() || plate < 0) {
                return FULL;
            }
            made++;
            dishes[plate] = dish;
            colours[plate] = colour;
            ages[plate] = 0;
            become(plate, state, seat);
            return plate;
        }

        void become(int plate, int state, int seat) {
            if (plate >= 0 && plate < made) {
                states[plate] = state;
                seats[plate] = seat;
            }
        }

        void growOlder(int plate) {
            if (has(plate)) {
                ages[plate]++;
            }
        }

        int madeOf(int colour) {
            int sum = 0;
            for (int plate = 0; plate < made; plate++) {
                sum += colours[plate] == colour ? 1 : 0;
            }
            return sum;
        }

        int inState(int colour, int state) {
            int sum = 0;
            for (int plate = 0; plate < made; plate++) {
                sum += colours[plate] == colour && states[plate] == state ? 1 : 0;
            }
            return sum;
        }

        int missing(int colour) {
            int sum = madeOf(colour);
            for (int state = ON_BELT; state <= THROWN; state++) {
                sum -= inState(colour, state);
            }
            return sum;
        }

        private boolean isOnBill(int plate, int seat) {
            return states[plate] == EATEN && seats[plate] == seat;
        }

        int onBill(int seat) {
            int sum = 0;
            for (int plate = 0; plate < made; plate++) {
                sum += isOnBill(plate, seat) ? 1 : 0;
            }
            return sum;
        }

        int billOf(int seat, Menu menu) {
            int sum = 0;
            for (int plate = 0; plate < made; plate++) {
                int colour = colours[plate];
                if (isOnBill(plate, seat) && isColour(colour)) {
                    sum += menu.prices[colour];
                }
            }
            return sum;
        }

        // All plates on the seat's bill come into a state, and to another seat's bill (or NONE).
        void clearBill(int seat, int state, int to) {
            for (int plate = 0; plate < made; plate++) {
                if (isOnBill(plate, seat)) {
                    become(plate, state, to);
                }
            }
        }

        void copy(Plates from) {
            int size = Math.min(from.made, MOST_PLATES);
            if (size < 0) {
                return;
            }
            System.arraycopy(from.dishes, 0, dishes, 0, size);
            System.arraycopy(from.colours, 0, colours, 0, size);
            System.arraycopy(from.ages, 0, ages, 0, size);
            System.arraycopy(from.states, 0, states, 0, size);
            System.arraycopy(from.seats, 0, seats, 0, size);
            made = size;
        }
    }

    /** The SEATS, who sits there, and what the KINDS of guests are like. */
    private static final class Seats {
        static final int CHILD = 1, HUNGRY = 2, PICKY = 3, LATE = 4, BABY = 5;

        // The kind that each kind is under.
        private static final int[] ABOVE = {-1, 0, 0, 0, 2, 1};
        private static final int[] ROOMS = {6, 3, 10, 6, 9, 2};
        private static final int[] TENS = {1, 10, 100, 1000, 10000, 100000};

        final int[] places = new int[MOST_SEATS];
        final int[] kinds = new int[MOST_SEATS];
        final int[] likes = new int[MOST_SEATS];
        final int[] eaten = new int[MOST_SEATS];
        final int[] waited = new int[MOST_SEATS];
        final int[] payers = new int[MOST_SEATS];
        // The plate that the guest took from the belt in the latest tick and may put back.
        final int[] took = new int[MOST_SEATS];
        int made = 0;

        static boolean isKind(int kind) {
            return kind >= 0 && kind < ABOVE.length;
        }

        // Whether the kind is the other one, or under it, also by others between.
        static boolean isUnder(int kind, int other) {
            int here = kind;
            for (int turns = 0; turns < ABOVE.length && isKind(here); turns++) {
                if (here == other) {
                    return true;
                }
                here = ABOVE[here];
            }
            return false;
        }

        boolean has(int seat) {
            return seat >= 0 && seat < made;
        }

        boolean isTaken(int seat) {
            return seat >= 0 && seat < made && kinds[seat] != NONE;
        }

        int roomOf(int seat) {
            int kind = seat >= 0 && seat < made ? kinds[seat] : NONE;
            return kind >= 0 && kind < ROOMS.length ? ROOMS[kind] : 0;
        }

        // The guest's likes of a dish, whatever the guest's kind is.
        int likesOf(int seat, int dish) {
            if (seat < 0 || seat >= made || dish < 0 || dish >= TENS.length) {
                return 0;
            }
            return likes[seat] / TENS[dish] % 10;
        }

        boolean hasOneAt(int place) {
            for (int seat = 0; seat < made; seat++) {
                if (places[seat] == place) {
                    return true;
                }
            }
            return false;
        }

        int add(int place) {
            int seat = made;
            if (seat < 0 || seat >= MOST_SEATS) {
                return FULL;
            }
            made++;
            places[seat] = place;
            clear(seat);
            return seat;
        }

        void welcome(int seat, int kind, int digits) {
            if (has(seat)) {
                clear(seat);
                kinds[seat] = kind;
                likes[seat] = digits;
            }
        }

        private void clear(int seat) {
            kinds[seat] = NONE;
            likes[seat] = 0;
            eaten[seat] = 0;
            waited[seat] = 0;
            payers[seat] = NONE;
            took[seat] = NONE;
        }

        // The seat is empty then, and pays for nobody any more.
        void dismiss(int seat) {
            if (!has(seat)) {
                return;
            }
            clear(seat);
            for (int other = 0; other < made; other++) {
                if (payers[other] == seat) {
                    payers[other] = NONE;
                }
            }
        }

        int guests() {
            int sum = 0;
            for (int seat = 0; seat < made; seat++) {
                sum += isTaken(seat) ? 1 : 0;
            }
            return sum;
        }

        void copy(Seats from) {
            System.arraycopy(from.places, 0, places, 0, MOST_SEATS);
            System.arraycopy(from.kinds, 0, kinds, 0, MOST_SEATS);
            System.arraycopy(from.likes, 0, likes, 0, MOST_SEATS);
            System.arraycopy(from.eaten, 0, eaten, 0, MOST_SEATS);
            System.arraycopy(from.waited, 0, waited, 0, MOST_SEATS);
            System.arraycopy(from.payers, 0, payers, 0, MOST_SEATS);
            System.arraycopy(from.took, 0, took, 0, MOST_SEATS);
            made = from.made;
        }
    }

    /** The upper lane: the plates on its trays by cells, and those that wait to come there. */
    private static final class Lane {
        final int[] cells;
        final int[] queue = new int[MOST_WAITING];
        int waits = 0;

        Lane(int size) {
            cells = new int[Math.max(size, 1)];
            Arrays.fill(cells, NONE);
        }

        boolean isQueueFull() {
            return waits < 0 || waits >= queue.length;
        }

        void join(int plate) {
            if (!isQueueFull()) {
                queue[waits] = plate;
                waits++;
            }
        }

        // Whether the cell is one of the lane and has no tray.
        boolean isFree(int cell) {
            return cell >= 0 && cell < cells.length && cells[cell] == NONE;
        }

        void letIn() {
            if (!isFree(0) || waits <= 0 || waits > queue.length) {
                return;
            }
            cells[0] = queue[0];
            waits--;
            System.arraycopy(queue, 1, queue, 0, waits);
        }

        int trays() {
            int sum = 0;
            for (int cell = 0; cell < cells.length; cell++) {
                sum += cells[cell] == NONE ? 0 : 1;
            }
            return sum;
        }

        void copy(Lane from) {
            if (from.cells.length == cells.length) {
                System.arraycopy(from.cells, 0, cells, 0, cells.length);
            }
            System.arraycopy(from.queue, 0, queue, 0, MOST_WAITING);
            waits = from.waits;
        }
    }

    /** All that changes as TICKS go by; looking ahead plays on copies of it. */
    private static final class Round {
        final Menu menu;
        final Rules rules;
        final int[] belt;
        final Plates plates = new Plates();
        final Seats seats = new Seats();
        final Lane lane;
        // What the names in a text stand for, by their numbers.
        final int[] known = new int[Text.NAMES];
        int ticks = 0;
        int takings = 0;
        int meals = 0;
        // Prices of what was eaten less the waste, since somebody last made it 0.
        long gain = 0;

        Round(int places, Menu menu, Rules rules) {
            this.menu = menu;
            this.rules = rules;
            belt = new int[Math.max(places, 1)];
            Arrays.fill(belt, NONE);
            lane = new Lane(places);
        }

        boolean isPlace(int place) {
            return place >= 0 && place < belt.length && place < lane.cells.length;
        }

        int whereIs(int plate) {
            if (!plates.has(plate)) {
                return NONE;
            }
            switch (plates.states[plate]) {
                case Plates.ON_BELT: return find(belt, plate);
                case Plates.ON_TRAY: return find(lane.cells, plate);
                case Plates.EATEN: return plates.seats[plate];
                default: return NONE;
            }
        }

        int layAtHatch(int dish) {
            if (!isDish(dish)) {
                return BAD;
            }
            if (belt[0] != NONE) {
                return STATE;
            }
            int plate = plates.make(dish, menu.colours[dish], Plates.ON_BELT, NONE);
            if (plate >= 0) {
                belt[0] = plate;
            }
            return plate;
        }

        int sendTray(int seat, int dish) {
            if (lane.isQueueFull() || !isDish(dish)) {
                return FULL;
            }
            int plate = plates.make(dish, menu.colours[dish], Plates.ON_TRAY, seat);
            if (plate >= 0) {
                lane.join(plate);
            }
            return plate;
        }

        int returnPlate(int seat) {
            if (!seats.isTaken(seat)) {
                return STATE;
            }
            int plate = seats.took[seat];
            int place = seats.places[seat];
            if (!plates.has(plate) || !isPlace(place) || belt[place] != NONE) {
                return STATE;
            }
            belt[place] = plate;
            plates.become(plate, Plates.ON_BELT, NONE);
            seats.eaten[seat]--;
            seats.took[seat] = NONE;
            return plate;
        }

        // Whether anything can still be eaten or thrown if nothing more is laid or ordered.
        boolean isBusy() {
            if (lane.waits > 0) {
                return true;
            }
            for (int place = 0; place < belt.length; place++) {
                if (belt[place] != NONE || !lane.isFree(place)) {
                    return true;
                }
            }
            return false;
        }

        void goByOnce() {
            turnBelt();
            throwStale();
            for (int cell = lane.cells.length - 1; cell >= 0; cell--) {
                moveTray(cell);
            }
            lane.letIn();
            for (int seat = 0; seat < seats.made; seat++) {
                serve(seat);
            }
            for (int seat = 0; seat < seats.made; seat++) {
                if (seats.isTaken(seat) && goValue(seat) != 0) {
                    leave(seat);
                }
            }
            ticks++;
        }

        private void turnBelt() {
            int last = belt[belt.length - 1];
            for (int place = belt.length - 1; place > 0; place--) {
                belt[place] = belt[place - 1];
                plates.growOlder(belt[place]);
            }
            belt[0] = last;
            plates.growOlder(last);
        }

        private void throwStale() {
            int plate = belt[0];
            if (!plates.has(plate)) {
                return;
            }
            int dish = plates.dishes[plate];
            if (isDish(dish) && plates.ages[plate] > menu.limits[dish]) {
                belt[0] = NONE;
                discard(plate);
            }
        }

        private void discard(int plate) {
            plates.become(plate, Plates.THROWN, NONE);
            gain -= menu.waste;
        }

        private void moveTray(int cell) {
            int plate = lane.cells[cell];
            if (!plates.has(plate)) {
                return;
            }
            plates.growOlder(plate);
            int seat = plates.seats[plate];
            if (seats.has(seat) && seats.places[seat] == cell) {
                if (!seats.isTaken(seat)) {
                    lane.cells[cell] = NONE;
                    discard(plate);
                }
            } else if (lane.isFree(cell + 1)) {
                lane.cells[cell] = NONE;
                lane.cells[cell + 1] = plate;
            }
        }

        private void serve(int seat) {
            seats.took[seat] = NONE;
            int place = seats.places[seat];
            if (!seats.isTaken(seat) || !isPlace(place)) {
                return;
            }
            int brought = lane.cells[place];
            int riding = belt[place];
            if (plates.has(brought) && plates.seats[brought] == seat) {
                lane.cells[place] = NONE;
                eat(seat, brought);
            } else if (plates.has(riding) && takeValue(seat, riding) != 0) {
                belt[place] = NONE;
                seats.took[seat] = riding;
                eat(seat, riding);
            } else {
                seats.waited[seat]++;
            }
        }

        private void eat(int seat, int plate) {
            plates.become(plate, Plates.EATEN, seat);
            seats.eaten[seat]++;
            seats.waited[seat] = 0;
            meals++;
            gain += priceOf(plate);
        }

        private void leave(int seat) {
            int payer = seats.payers[seat];
            if (seats.isTaken(payer)) {
                plates.clearBill(seat, Plates.EATEN, payer);
            } else {
                takings += plates.billOf(seat, menu);
                plates.clearBill(seat, Plates.PAID, NONE);
            }
            seats.dismiss(seat);
        }

        private int priceOf(int plate) {
            int colour = plates.has(plate) ? plates.colours[plate] : NONE;
            return isColour(colour) ? menu.prices[colour] : 0;
        }

        int likingOf(int seat, int plate) {
            if (!seats.isTaken(seat) || !plates.has(plate)) {
                return 0;
            }
            int dish = plates.dishes[plate];
            int likes = seats.likesOf(seat, dish);
            int treat = dish == 0 ? 2 : 0;
            switch (seats.kinds[seat]) {
                case Seats.CHILD: return likes + treat;
                case Seats.HUNGRY: return likes + 1;
                case Seats.PICKY: return likes - plates.ages[plate] / 4;
                case Seats.LATE: return likes + 1 + seats.waited[seat] / 5;
                case Seats.BABY: return seats.eaten[seat] < 2 ? likes + treat : likes;
                default: return likes;
            }
        }

        int takeValue(int seat, int plate) {
            if (!seats.isTaken(seat) || !plates.has(plate)) {
                return 0;
            }
            known[Text.LIKE] = likingOf(seat, plate);
            known[Text.AGE] = plates.ages[plate];
            known[Text.PRICE] = priceOf(plate);
            learnGuest(seat);
            return rules.rule.value(Text.TAKE, known);
        }

        int goValue(int seat) {
            if (!seats.isTaken(seat)) {
                return 0;
            }
            known[Text.LIKE] = 0;
            known[Text.AGE] = 0;
            known[Text.PRICE] = 0;
            learnGuest(seat);
            return rules.rule.value(Text.GO, known);
        }

        private void learnGuest(int seat) {
            known[Text.WAITED] = seats.waited[seat];
            known[Text.EATEN] = seats.eaten[seat];
            known[Text.ROOM] = seats.roomOf(seat);
        }

        void copy(Round from) {
            if (from.belt.length == belt.length) {
                System.arraycopy(from.belt, 0, belt, 0, belt.length);
            }
            plates.copy(from.plates);
            seats.copy(from.seats);
            lane.copy(from.lane);
            ticks = from.ticks;
            takings = from.takings;
            meals = from.meals;
            gain = from.gain;
        }
    }

    /** Looking AHEAD: all rows of choices are played on copies, a copy for each choice of a row. */
    private static final class Foresight {
        static final int MOST_CHOICES = 3;
        static final int MOST_MORE = 24;

        private final Round[] copies = new Round[MOST_CHOICES];
        private final int[] choices = new int[MOST_CHOICES];
        final int[] best = new int[MOST_CHOICES];
        long bestGain = NO;

        Foresight(int places, Menu menu, Rules rules) {
            for (int i = 0; i < MOST_CHOICES; i++) {
                copies[i] = new Round(places, menu, rules);
            }
        }

        static boolean canLook(int k, int t) {
            return within(k, 1, MOST_CHOICES) && within(t, 0, MOST_MORE);
        }

        void look(Round now, int k, int t) {
            bestGain = NO;
            now.gain = 0;
            tryChoices(this, now, 0, k, t);
        }

        // Tries all choices from a level on; those of the levels ahead of it were played already.
        // It calls itself, and such a method alone is static (rule 8 of LANGUAGE.md).
        private static void tryChoices(Foresight sight, Round from, int level, int k, int t) {
            if (level < 0 || level >= k || level >= MOST_CHOICES) {
                return;
            }
            Round next = sight.copies[level];
            if (next == null) {
                return;
            }
            // Where nothing can be laid all choices are alike, and the least one stands for them.
            boolean alike = from.belt[0] != NONE || from.plates.areFull();
            int last = alike ? 0 : DISHES;
            for (int choice = 0; choice <= last; choice++) {
                sight.choices[level] = choice;
                next.copy(from);
                next.layAtHatch(choice);
                next.goByOnce();
                if (level + 1 < k) {
                    tryChoices(sight, next, level + 1, k, t);
                } else {
                    for (int i = 0; i < t && next.isBusy(); i++) {
                        next.goByOnce();
                    }
                    sight.keepBest(next.gain);
                }
            }
        }

        private void keepBest(long gain) {
            if (gain > bestGain) {
                bestGain = gain;
                System.arraycopy(choices, 0, best, 0, MOST_CHOICES);
            }
        }
    }

    /** The TEXTS, and which of them is THE RULE. */
    private static final class Rules {
        // TEXT 0 as Text's steps: take 4 < like + waited ; go room = eaten ;
        private static final int[] FIRST_TAKE = {4, -1, -3, -13, -11};
        private static final int[] FIRST_GO = {-6, -4, -12};

        private final Text[] texts = new Text[MOST_TEXTS];
        Text rule = new Text(FIRST_TAKE, FIRST_GO);
        int made = 1;
        int chosen = 0;

        Rules() {
            texts[0] = rule;
        }

        boolean areFull() {
            return made < 0 || made >= texts.length;
        }

        int add(Text text) {
            if (areFull()) {
                return FULL;
            }
            texts[made] = text;
            made++;
            return made - 1;
        }

        int choose(int number) {
            if (number < 0 || number >= made || number >= texts.length) {
                return BAD;
            }
            Text text = texts[number];
            if (text == null) {
                return BAD;
            }
            int was = chosen;
            chosen = number;
            rule = text;
            return was;
        }
    }

    /**
     * A TEXT as two rows of steps over a stack, operands ahead of what is done with them: a step
     * from 0 on is a number, -1 .. -6 are the names, the others are done.
     */
    private static final class Text {
        static final int TAKE = 0, GO = 1;
        static final int LIKE = 0, AGE = 1, WAITED = 2, EATEN = 3, PRICE = 4, ROOM = 5, NAMES = 6;
        static final int FIRST_NAME = -1;
        static final int NOT = -7, NEGATE = -8, OR = -9, AND = -10, LESS = -11, SAME = -12;
        static final int PLUS = -13, MINUS = -14, TIMES = -15;

        private final int[] take;
        private final int[] go;
        private final int[] stack;

        Text(int[] take, int[] go) {
            this.take = take;
            this.go = go;
            stack = new int[Math.max(take.length, go.length)];
        }

        int value(int part, int[] known) {
            int[] steps = part == TAKE ? take : go;
            int top = 0;
            for (int i = 0; i < steps.length; i++) {
                int step = steps[i];
                int name = FIRST_NAME - step;
                if (step > NOT) {
                    if (top < stack.length) {
                        stack[top] = name >= 0 && name < known.length ? known[name] : step;
                        top++;
                    }
                } else if (step >= NEGATE) {
                    if (top >= 1) {
                        stack[top - 1] = alone(step, stack[top - 1]);
                    }
                } else if (top >= 2) {
                    top--;
                    stack[top - 1] = together(step, stack[top - 1], stack[top]);
                }
            }
            return top >= 1 ? stack[top - 1] : 0;
        }

        private static int alone(int step, int a) {
            if (step == NEGATE) {
                return -a;
            }
            return a == 0 ? 1 : 0;
        }

        private static int together(int step, int a, int b) {
            switch (step) {
                case OR: return a != 0 || b != 0 ? 1 : 0;
                case AND: return a != 0 && b != 0 ? 1 : 0;
                case LESS: return a < b ? 1 : 0;
                case SAME: return a == b ? 1 : 0;
                case PLUS: return a + b;
                case MINUS: return a - b;
                default: return a * b;
            }
        }
    }

    /** THE TAPE: it is cut into tokens, and these are read as a TEXT, one method for each part. */
    private static final class Reader {
        private static final int MOST_OPEN = 5;
        private static final int MOST_DIGITS = 4;
        // Tokens: signs are their own bytes, the others numbers below all bytes.
        private static final int END = -1, BROKEN = -2, NUMBER = -3, NAME = -4;
        private static final int TAKE = -5, GO = -6, OR = -7, AND = -8, NOT = -9;

        private final int[] bytes = new int[MOST_BYTES];
        int size = 0;
        // Of each token: what it is, its first byte's place, and of a NUMBER or NAME its step.
        private final int[] tokens = new int[MOST_BYTES];
        private final int[] starts = new int[MOST_BYTES];
        private final int[] operands = new int[MOST_BYTES];
        private int cut = 0;
        private int here = 0;
        private final int[] steps = new int[MOST_BYTES];
        private int written = 0;
        private int takeSteps = 0;
        int fault = 0;

        int append(int n, long number) {
            if (n < 0 || n > MOST_BYTES - size) {
                return FULL;
            }
            for (int i = 0; i < n; i++) {
                bytes[size] = (int) (number >>> (8 * i)) & 255;
                size++;
            }
            return size;
        }

        // Whether the tape is a text; if it is none, the fault's place is known then.
        boolean readAll() {
            cutTokens();
            here = 0;
            written = 0;
            if (!pass(TAKE) || !readEither(0)) {
                return false;
            }
            takeSteps = written;
            return pass(';') && pass(GO) && readEither(0) && pass(';') && pass(END);
        }

        Text copyOfText() {
            int half = Math.max(0, Math.min(takeSteps, steps.length));
            int whole = Math.max(half, Math.min(written, steps.length));
            return new Text(Arrays.copyOfRange(steps, 0, half), Arrays.copyOfRange(steps, half, whole));
        }

        private int token() {
            return here >= 0 && here < cut ? tokens[here] : END;
        }

        private boolean fail() {
            fault = here >= 0 && here < cut ? starts[here] : size;
            return false;
        }

        private boolean pass(int wanted) {
            if (token() != wanted) {
                return fail();
            }
            here++;
            return true;
        }

        private void write(int step) {
            if (written < steps.length) {
                steps[written] = step;
                written++;
            }
        }

        private boolean readEither(int open) {
            boolean good = readBoth(open);
            for (int turns = 0; turns < MOST_BYTES && good && token() == OR; turns++) {
                here++;
                good = readBoth(open);
                write(Text.OR);
            }
            return good;
        }

        private boolean readBoth(int open) {
            boolean good = readNot(open);
            for (int turns = 0; turns < MOST_BYTES && good && token() == AND; turns++) {
                here++;
                good = readNot(open);
                write(Text.AND);
            }
            return good;
        }

        private boolean readNot(int open) {
            if (token() != NOT) {
                return readComparison(open);
            }
            if (open >= MOST_OPEN) {
                return fail();
            }
            here++;
            boolean good = readNot(open + 1);
            write(Text.NOT);
            return good;
        }

        private boolean readComparison(int open) {
            boolean good = readSum(open);
            int sign = token();
            if (!good || (sign != '<' && sign != '=')) {
                return good;
            }
            here++;
            good = readSum(open);
            write(sign == '<' ? Text.LESS : Text.SAME);
            return good;
        }

        private boolean readSum(int open) {
            boolean good = readTerm(open);
            int sign = token();
            for (int turns = 0; turns < MOST_BYTES && good && (sign == '+' || sign == '-'); turns++) {
                here++;
                good = readTerm(open);
                write(sign == '+' ? Text.PLUS : Text.MINUS);
                sign = token();
            }
            return good;
        }

        private boolean readTerm(int open) {
            boolean good = readOne(open);
            for (int turns = 0; turns < MOST_BYTES && good && token() == '*'; turns++) {
                here++;
                good = readOne(open);
                write(Text.TIMES);
            }
            return good;
        }

        private boolean readOne(int open) {
            int sign = token();
            if ((sign == NUMBER || sign == NAME) && here < operands.length) {
                write(operands[here]);
                here++;
                return true;
            }
            if ((sign != '-' && sign != '(') || open >= MOST_OPEN) {
                return fail();
            }
            here++;
            if (sign == '(') {
                return readEither(open + 1) && pass(')');
            }
            boolean good = readOne(open + 1);
            write(Text.NEGATE);
            return good;
        }

        private void cutTokens() {
            cut = 0;
            int start = 0;
            for (int turns = 0; turns < MOST_BYTES && start < size; turns++) {
                int end = start + 1;
                int sign = bytes[start];
                if (isLetter(sign)) {
                    end = endOfWord(start);
                    addWord(start, end);
                } else if (isDigit(sign)) {
                    end = endOfNumber(start);
                    addNumber(start, end);
                } else if (sign != ' ' && sign != 10) {
                    addToken(isSign(sign) ? sign : BROKEN, start, 0);
                }
                start = end;
            }
        }

        private static boolean isLetter(int sign) {
            return sign >= 'a' && sign <= 'z';
        }

        private static boolean isDigit(int sign) {
            return sign >= '0' && sign <= '9';
        }

        private static boolean isSign(int sign) {
            switch (sign) {
                case '(': case ')': case ';': case '+': case '-': case '*': case '<': case '=':
                    return true;
                default:
                    return false;
            }
        }

        private int endOfWord(int start) {
            int end = start;
            while (end < size && isLetter(bytes[end])) {
                end++;
            }
            return end;
        }

        private int endOfNumber(int start) {
            int end = start;
            while (end < size && isDigit(bytes[end])) {
                end++;
            }
            return end;
        }

        private void addToken(int token, int start, int operand) {
            if (cut < tokens.length) {
                tokens[cut] = token;
                starts[cut] = start;
                operands[cut] = operand;
                cut++;
            }
        }

        private void addNumber(int start, int end) {
            int number = 0;
            for (int i = start; i < end; i++) {
                number = number * 10 + bytes[i] - '0';
            }
            addToken(end - start > MOST_DIGITS ? BROKEN : NUMBER, start, number);
        }

        private void addWord(int start, int end) {
            int name = nameOf(start, end);
            if (name == NONE) {
                addToken(keyOf(start, end), start, 0);
            } else {
                addToken(NAME, start, Text.FIRST_NAME - name);
            }
        }

        private int nameOf(int start, int end) {
            if (spells("like", start, end)) {
                return Text.LIKE;
            }
            if (spells("age", start, end)) {
                return Text.AGE;
            }
            if (spells("waited", start, end)) {
                return Text.WAITED;
            }
            if (spells("eaten", start, end)) {
                return Text.EATEN;
            }
            if (spells("price", start, end)) {
                return Text.PRICE;
            }
            return spells("room", start, end) ? Text.ROOM : NONE;
        }

        private int keyOf(int start, int end) {
            if (spells("take", start, end)) {
                return TAKE;
            }
            if (spells("go", start, end)) {
                return GO;
            }
            if (spells("or", start, end)) {
                return OR;
            }
            if (spells("and", start, end)) {
                return AND;
            }
            return spells("not", start, end) ? NOT : BROKEN;
        }

        private boolean spells(String word, int start, int end) {
            if (end - start != word.length() || start < 0 || end > size) {
                return false;
            }
            for (int i = 0; i < word.length(); i++) {
                if (bytes[start + i] != word.charAt(i)) {
                    return false;
                }
            }
            return true;
        }
    }

    /** Whole FISH cut into PIECES. */
    private static final class Fish {
        static final int LONGEST = 30;
        static final int LONGEST_PIECE = 6;

        final int[] worths = new int[LONGEST_PIECE + 1];
        // Of each length that is left behind the first piece: the most that it brings.
        private final int[] most = new int[LONGEST + 1];
        final int[] row = new int[LONGEST];
        int pieces = 0;
        int brings = 0;

        void plan(int length) {
            for (int left = 1; left <= LONGEST; left++) {
                most[left] = bringsWith(bestPiece(left, false), left, false);
            }
            pieces = 0;
            int left = Math.min(length, LONGEST);
            brings = bringsWith(bestPiece(left, true), left, true);
            for (int i = 0; i < LONGEST && left > 0; i++) {
                row[i] = bestPiece(left, i == 0);
                left -= row[i];
                pieces++;
            }
        }

        // The least piece that brings most as the next one of what is left.
        private int bestPiece(int left, boolean first) {
            int best = 1;
            for (int piece = 2; piece <= LONGEST_PIECE && piece <= left; piece++) {
                if (bringsWith(piece, left, first) > bringsWith(best, left, first)) {
                    best = piece;
                }
            }
            return best;
        }

        private int bringsWith(int piece, int left, boolean first) {
            if (!within(piece, 1, LONGEST_PIECE) || !within(left, piece, LONGEST)) {
                return 0;
            }
            boolean isEnd = first || piece == left;
            return (isEnd ? worths[piece] / 2 : worths[piece]) + most[left - piece];
        }
    }

    /** The SHEETS: rows of numbers of a sort. */
    private static final class Sheets {
        static final int SHEETS = 4;
        static final int MOST_ITEMS = 40;
        static final int MISSING = -1, BYTES = 0, SHORTS = 1, INTS = 2;

        final int[] sorts = {MISSING, MISSING, MISSING, MISSING};
        final int[] sizes = new int[SHEETS];
        final int[][] items = new int[SHEETS][MOST_ITEMS];

        static boolean isSheet(int sheet) {
            return within(sheet, 0, SHEETS - 1);
        }

        static boolean isSort(int sort) {
            return within(sort, BYTES, INTS);
        }

        boolean hasItem(int sheet, int i) {
            return isSheet(sheet) && i >= 0 && i < sizes[sheet] && i < MOST_ITEMS;
        }

        void remove(int sheet) {
            if (isSheet(sheet)) {
                sorts[sheet] = MISSING;
                sizes[sheet] = 0;
            }
        }

        void make(int sheet, int sort, int n) {
            if (isSheet(sheet)) {
                sorts[sheet] = sort;
                sizes[sheet] = n;
                Arrays.fill(items[sheet], 0);
            }
        }

        void put(int sheet, int i, int v) {
            if (!hasItem(sheet, i)) {
                return;
            }
            switch (sorts[sheet]) {
                case BYTES: items[sheet][i] = (byte) v; break;
                case SHORTS: items[sheet][i] = (short) v; break;
                default: items[sheet][i] = v;
            }
        }
    }
}
