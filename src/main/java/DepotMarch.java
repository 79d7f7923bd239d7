import java.util.Arrays;

/**
 * Parties that march over a waste by written orders, with the stores, the book of rations and what is foretold of
 * them. The document's numbered promises say what each call answers.
 */
public final class DepotMarch {
    public static final int NONE = -1;

    private static final int NOT_TAKEN = -2;

    private static final int TAPE_MOST = 500;
    private static final int FEED_BYTES = 20;
    private static final int CAMPS = 16;
    private static final int STORM_DAYS = 400;
    private static final int DAYS_AT_ONCE = 50;
    private static final int LOTS_MOST = 20;
    private static final int LOT_RATIONS_MOST = 500;
    private static final int RATIONS_MOST = LOTS_MOST * LOT_RATIONS_MOST;
    private static final int PARTIES_MOST = 6;
    private static final int MEN_MOST = 6;
    private static final int CARRY_MOST = 200;
    private static final int NAMES = 26;
    private static final int HUNGER_OF_LOST = 3;
    private static final int IMAGES = 3;
    private static final int NEED_CARRY_LEAST = 3;
    private static final int FAR_RATIONS_MOST = 1000000;

    private static final int LINES_KEPT = 600;
    private static final int LINE_NUMBERS = 6;
    private static final int LANDED = 0;
    private static final int TAKEN = 1;
    private static final int LAID = 2;
    private static final int EATEN = 3;

    private static final int STATEMENTS_MOST = 60;
    private static final int EXPRESSIONS_OPEN_MOST = 8;
    private static final int BLOCKS_OPEN_MOST = 6;
    private static final int COUNTED_MOST = 300;
    private static final int NO_FAULT = 0;
    private static final int FAULT_TEXT = 1;
    private static final int FAULT_TOO_MANY = 2;

    /** Each word's place in this row, from 0 on, is its kind; a blank closes each. */
    private static final String WORDS =
            "march back rest stop take lay leave if else while food store room camp day men storm letter hunger ";
    private static final int MARCH = 0;
    private static final int BACK = 1;
    private static final int REST = 2;
    private static final int STOP = 3;
    private static final int TAKE = 4;
    private static final int LAY = 5;
    private static final int LEAVE = 6;
    private static final int IF = 7;
    private static final int ELSE = 8;
    private static final int WHILE = 9;
    private static final int FOOD = 10;
    private static final int STORE = 11;
    private static final int ROOM = 12;
    private static final int CAMP = 13;
    private static final int DAY = 14;
    private static final int MEN = 15;
    private static final int STORM = 16;
    private static final int LETTER = 17;
    private static final int HUNGER = 18;
    private static final int NAME = 19;
    private static final int NUMBER = 20;

    /** A sign's kind is SIGN and its place in this row. */
    private static final String SIGNS = "{}();=<>+-*/%";
    private static final int SIGN = 21;
    private static final int BLOCK_OPEN = 21;
    private static final int BLOCK_SHUT = 22;
    private static final int ROUND_OPEN = 23;
    private static final int ROUND_SHUT = 24;
    private static final int SEMICOLON = 25;
    private static final int EQUAL = 26;
    private static final int LESS = 27;
    private static final int GREATER = 28;
    private static final int PLUS = 29;
    private static final int MINUS = 30;
    private static final int TIMES = 31;
    private static final int OVER = 32;
    private static final int REMAINDER = 33;
    private static final int TAPE_END = 34;
    private static final int NO_TOKEN = 35;

    /** Steps of read orders that are no tokens. */
    private static final int BEGIN = 36;
    private static final int UNLESS = 37;
    private static final int JUMP = 38;
    private static final int SET = 39;
    private static final int NEGATE = 40;

    /** A step is its kind and a number: a place to go to, a NAME or a NUMBER. */
    private static final int STEP = 2;
    private static final int COMPARISONS = 0;
    private static final int SUMS = 1;
    private static final int PRODUCTS = 2;
    private static final int OPERANDS = 3;
    /** Each open E keeps at most one value waiting on each of its three levels. */
    private static final int STACK = (EXPRESSIONS_OPEN_MOST + 1) * OPERANDS;
    /** Far above 300 S with all the steps of the longest text between them. */
    private static final int STEPS_OF_A_DAY = 1000000;

    private static final int ROWS = CAMPS + PARTIES_MOST;
    private static final int RUNS_AT_FIRST = 64;
    private static final int[] NO_ORDERS = {};

    private final int[] tape = new int[TAPE_MOST];
    private int tapeLength;
    private final Reader reader = new Reader();
    private final Guide guide = new Guide();
    private final World world = new World();
    private final World[] images = new World[IMAGES];
    private World trial;

    public DepotMarch() {
    }

    public int feed(int a, int b, int c, int d, int e) {
        if (tapeLength + FEED_BYTES > TAPE_MOST) {
            return NONE;
        }
        putBytes(a);
        putBytes(b);
        putBytes(c);
        putBytes(d);
        putBytes(e);
        return tapeLength;
    }

    public int end(int n) {
        if (n < 0 || n > tapeLength) {
            return NONE;
        }
        tapeLength = n;
        return n;
    }

    public int party(int men, int carry) {
        if (men < 1 || men > MEN_MOST || carry < 1 || carry > CARRY_MOST) {
            return NONE;
        }
        return world.makeParty(men, carry);
    }

    public int orders(int party) {
        Party p = world.partyOf(party);
        if (p == null || p.isLost()) {
            return NOT_TAKEN;
        }
        reader.read(tape, tapeLength);
        tapeLength = 0;
        if (reader.fault != NO_FAULT) {
            return NONE;
        }
        p.begin(reader.steps());
        return reader.statements;
    }

    public int fault(int what) {
        switch (what) {
            case 0:
                return reader.fault;
            case 1:
                return reader.faultPlace;
            default:
                return NONE;
        }
    }

    public int land(int rations) {
        if (rations < 1 || rations > LOT_RATIONS_MOST) {
            return NONE;
        }
        return world.makeLot(rations);
    }

    public boolean storm(int day, boolean is) {
        return day >= world.day && world.setStorm(day, is);
    }

    public int days(int n) {
        if (!world.canPass(n)) {
            return NONE;
        }
        for (int i = 0; i < n; i++) {
            guide.passDay(world);
        }
        return world.day;
    }

    public int ahead(int n, int what) {
        if (!world.canPass(n) || what < 0 || what > 2) {
            return NOT_TAKEN;
        }
        if (trial == null) {
            trial = new World();
        }
        trial.copy(world);
        int hungry = NONE;
        for (int i = 0; i < n; i++) {
            int day = trial.day;
            guide.passDay(trial);
            if (hungry == NONE && trial.isHungryOfThoseIn(world)) {
                hungry = day;
            }
        }
        if (what == 0) {
            return hungry;
        }
        return what == 1 ? trial.lostParties() : trial.inStores();
    }

    public int tell(int party, int what) {
        Party p = world.partyOf(party);
        if (p == null) {
            return NONE;
        }
        switch (what) {
            case 0:
                return p.men;
            case 1:
                return p.carry;
            case 2:
                return world.rows.amount(p.row());
            case 3:
                return p.camp;
            case 4:
                return p.hunger;
            case 5:
                return p.isLost() ? 1 : 0;
            case 6:
                return p.ate();
            case 7:
                return p.stayed;
            case 8:
                return p.isOver() ? 1 : 0;
            case 9:
                return p.counted;
            default:
                return what >= 10 && what < 10 + NAMES ? p.nameOf(what - 10) : NONE;
        }
    }

    public int camp(int camp, int what) {
        if (!within(camp, CAMPS)) {
            return NONE;
        }
        switch (what) {
            case 0:
                return world.rows.amount(camp);
            case 1:
                return world.letterAt(camp);
            case 2:
                return world.partiesAt(camp);
            case 3:
                return world.rows.firstLot(camp);
            default:
                return NONE;
        }
    }

    public int lot(int lot, int what) {
        if (!within(lot, world.lots)) {
            return NONE;
        }
        if (what >= 10 && what < 10 + CAMPS) {
            return world.rows.amountOf(what - 10, lot);
        }
        if (what >= 30 && what < 30 + world.parties) {
            return world.rows.amountOf(CAMPS + what - 30, lot);
        }
        if (what >= 40 && what < 40 + world.parties) {
            return world.eatenOf(what - 40, lot);
        }
        switch (what) {
            case 0:
                return world.landedOf(lot);
            case 1:
                return world.sumOf(lot, 0, CAMPS);
            case 2:
                return world.sumOf(lot, CAMPS, ROWS);
            case 3:
                return world.eatenOf(lot);
            default:
                return NONE;
        }
    }

    public int line(int k, int what) {
        return world.book.number(k, what);
    }

    public int count(int what) {
        switch (what) {
            case 0:
                return world.day;
            case 1:
                return world.parties;
            case 2:
                return world.lots;
            case 3:
                return world.book.lines;
            case 4:
                return world.landed();
            case 5:
                return world.eaten();
            case 6:
                return world.inStores();
            case 7:
                return world.carried();
            case 8:
                return world.lostParties();
            default:
                return NONE;
        }
    }

    public int need(int carry, int camp) {
        if (!isCarryOfNeed(carry) || !within(camp, CAMPS)) {
            return NONE;
        }
        int rations = 0;
        for (int i = 0; i < camp; i++) {
            rations = needBehind(rations, carry);
        }
        return rations;
    }

    public int far(int carry, int rations) {
        if (!isCarryOfNeed(carry) || rations < 0 || rations > FAR_RATIONS_MOST) {
            return NONE;
        }
        int reached = 0;
        int least = needBehind(0, carry);
        for (int i = 1; i < CAMPS && least <= rations; i++) {
            reached = i;
            least = needBehind(least, carry);
        }
        return reached;
    }

    public boolean image(int k) {
        if (!within(k, IMAGES)) {
            return false;
        }
        World image = images[k];
        if (image == null) {
            image = new World();
            images[k] = image;
        }
        image.copy(world);
        return true;
    }

    public boolean again(int k) {
        if (!within(k, IMAGES)) {
            return false;
        }
        World image = images[k];
        if (image == null) {
            return false;
        }
        world.copy(image);
        return true;
    }

    private void putBytes(int number) {
        for (int shift = 24; shift >= 0; shift -= 8) {
            if (within(tapeLength, tape.length)) {
                tape[tapeLength] = (number >>> shift) & 255;
                tapeLength++;
            }
        }
    }

    private static boolean isCarryOfNeed(int carry) {
        return carry >= NEED_CARRY_LEAST && carry <= CARRY_MOST;
    }

    /** The NEED of a camp from that of the camp before it: each trip eats two of the rations that it carries. */
    private static int needBehind(int rations, int carry) {
        int brought = Math.max(1, carry - 2);
        int trips = Math.max(1, (rations + brought - 1) / brought);
        return rations + 2 * trips;
    }

    private static boolean within(int index, int length) {
        return index >= 0 && index < length;
    }

    /** All that an image has: everything that is told but the tape and the FAULT. */
    private static final class World {
        int day;
        int lots;
        int parties;
        final Rows rows = new Rows();
        final Book book = new Book();
        private final boolean[] storms = new boolean[STORM_DAYS];
        private final int[] letters = new int[CAMPS];
        private final int[] lotRations = new int[LOTS_MOST];
        private final Party[] party = new Party[PARTIES_MOST];

        World() {
            Arrays.fill(letters, NONE);
            for (int i = 0; i < PARTIES_MOST; i++) {
                party[i] = new Party(i);
            }
        }

        void copy(World from) {
            day = from.day;
            lots = from.lots;
            parties = from.parties;
            rows.copy(from.rows);
            book.copy(from.book);
            System.arraycopy(from.storms, 0, storms, 0, STORM_DAYS);
            System.arraycopy(from.letters, 0, letters, 0, CAMPS);
            System.arraycopy(from.lotRations, 0, lotRations, 0, LOTS_MOST);
            for (int i = 0; i < PARTIES_MOST; i++) {
                party[i].copy(from.party[i]);
            }
        }

        Party partyOf(int number) {
            return within(number, parties) && within(number, PARTIES_MOST) ? party[number] : null;
        }

        int makeParty(int men, int carry) {
            if (!within(parties, PARTIES_MOST)) {
                return NONE;
            }
            party[parties].make(men, carry);
            parties++;
            return parties - 1;
        }

        int makeLot(int rations) {
            if (!within(lots, LOTS_MOST)) {
                return NONE;
            }
            int lot = lots;
            lots++;
            lotRations[lot] = rations;
            rows.add(0, lot, rations);
            book.write(LANDED, day, NONE, 0, lot, rations);
            return lot;
        }

        boolean setStorm(int on, boolean is) {
            if (!within(on, STORM_DAYS) || storms[on] == is) {
                return false;
            }
            storms[on] = is;
            return true;
        }

        boolean isStorm() {
            return within(day, STORM_DAYS) && storms[day];
        }

        boolean canPass(int days) {
            return days >= 1 && days <= DAYS_AT_ONCE && day + days <= STORM_DAYS;
        }

        void leaveLetter(int camp, int letter) {
            if (within(camp, CAMPS)) {
                letters[camp] = letter;
            }
        }

        int letterAt(int camp) {
            return within(camp, CAMPS) ? letters[camp] : NONE;
        }

        int room(Party p) {
            return p.carry - rows.amount(p.row());
        }

        /** The first rations of a row go, no more than there are, with a line for those of one LOT. */
        void move(int what, Party p, int wanted) {
            int from = what == TAKEN ? p.camp : p.row();
            int to = what == TAKEN ? p.row() : p.camp;
            int left = Math.min(wanted, rows.amount(from));
            for (int i = 0; left > 0 && i < RATIONS_MOST; i++) {
                int lot = rows.firstLot(from);
                int gone = rows.drop(from, left);
                if (what == EATEN) {
                    p.eat(lot, gone);
                } else {
                    rows.add(to, lot, gone);
                }
                book.write(what, day, p.number, p.camp, lot, gone);
                left -= gone;
            }
        }

        void meal(Party p) {
            boolean enough = rows.amount(p.row()) >= p.men;
            move(EATEN, p, p.men);
            p.hunger = enough ? 0 : p.hunger + 1;
        }

        /** HUNGER here counts only for those who are not yet LOST in the world that this one was copied from. */
        boolean isHungryOfThoseIn(World before) {
            boolean is = false;
            for (int i = 0; i < parties && i < PARTIES_MOST; i++) {
                is = is || party[i].hunger > 0 && !before.party[i].isLost();
            }
            return is;
        }

        int lostParties() {
            int lost = 0;
            for (int i = 0; i < parties && i < PARTIES_MOST; i++) {
                lost += party[i].isLost() ? 1 : 0;
            }
            return lost;
        }

        int partiesAt(int camp) {
            int there = 0;
            for (int i = 0; i < parties && i < PARTIES_MOST; i++) {
                there += party[i].camp == camp && !party[i].isLost() ? 1 : 0;
            }
            return there;
        }

        int landed() {
            int all = 0;
            for (int i = 0; i < lots && i < LOTS_MOST; i++) {
                all += lotRations[i];
            }
            return all;
        }

        int eaten() {
            int all = 0;
            for (int i = 0; i < parties && i < PARTIES_MOST; i++) {
                all += party[i].ate();
            }
            return all;
        }

        int inStores() {
            return rows.amountIn(0, CAMPS);
        }

        int carried() {
            return rows.amountIn(CAMPS, ROWS);
        }

        int landedOf(int lot) {
            return within(lot, LOTS_MOST) ? lotRations[lot] : 0;
        }

        int eatenOf(int lot) {
            int all = 0;
            for (int i = 0; i < parties && i < PARTIES_MOST; i++) {
                all += party[i].ateOf(lot);
            }
            return all;
        }

        int eatenOf(int number, int lot) {
            Party p = partyOf(number);
            return p == null ? 0 : p.ateOf(lot);
        }

        int sumOf(int lot, int firstRow, int behindRow) {
            int all = 0;
            for (int row = firstRow; row < behindRow; row++) {
                all += rows.amountOf(row, lot);
            }
            return all;
        }
    }

    /** A PARTY; its FOOD lies in the row of rations that bears its number. */
    private static final class Party {
        final int number;
        int men;
        int carry;
        int camp;
        int hunger;
        int stayed;
        int counted;
        int at;
        int[] steps = NO_ORDERS;
        private final int[] names = new int[NAMES];
        private final int[] eaten = new int[LOTS_MOST];

        Party(int number) {
            this.number = number;
        }

        /** All else is as new: nobody changes a party before it is made, and a copy takes along those not yet made. */
        void make(int menOfIt, int carryOfIt) {
            men = menOfIt;
            carry = carryOfIt;
        }

        void copy(Party from) {
            men = from.men;
            carry = from.carry;
            camp = from.camp;
            hunger = from.hunger;
            stayed = from.stayed;
            counted = from.counted;
            at = from.at;
            steps = from.steps;
            System.arraycopy(from.names, 0, names, 0, NAMES);
            System.arraycopy(from.eaten, 0, eaten, 0, LOTS_MOST);
        }

        void begin(int[] orders) {
            steps = orders;
            at = 0;
        }

        int row() {
            return CAMPS + number;
        }

        boolean isLost() {
            return hunger >= HUNGER_OF_LOST;
        }

        /** Jumps begin no S and ask nothing, so one that stands before them may be over all the same. */
        boolean isOver() {
            int place = at;
            for (int i = 0; i < TAPE_MOST && isJump(place); i++) {
                place = steps[place + 1];
            }
            return place >= steps.length;
        }

        private boolean isJump(int place) {
            return place >= 0 && place + 1 < steps.length && steps[place] == JUMP;
        }

        int nameOf(int name) {
            return within(name, NAMES) ? names[name] : 0;
        }

        void setName(int name, int value) {
            if (within(name, NAMES)) {
                names[name] = value;
            }
        }

        void eat(int lot, int rations) {
            if (within(lot, LOTS_MOST)) {
                eaten[lot] += rations;
            }
        }

        int ateOf(int lot) {
            return within(lot, LOTS_MOST) ? eaten[lot] : 0;
        }

        int ate() {
            int all = 0;
            for (int lot = 0; lot < LOTS_MOST; lot++) {
                all += eaten[lot];
            }
            return all;
        }
    }

    /**
     * The rows of rations: the STORES by camp, then the FOOD of the parties. Rations of one LOT that lie one behind the
     * other are one run, so that a day costs as much with many rations as with few; neighbours in a row are always of
     * two LOTS.
     */
    private static final class Rows {
        private final int[] first = new int[ROWS];
        private final int[] last = new int[ROWS];
        private final int[] amounts = new int[ROWS];
        private int[] lotOf = new int[RUNS_AT_FIRST];
        private int[] rations = new int[RUNS_AT_FIRST];
        private int[] next = new int[RUNS_AT_FIRST];
        private int used;
        private int free = NONE;

        Rows() {
            Arrays.fill(first, NONE);
            Arrays.fill(last, NONE);
        }

        void copy(Rows from) {
            System.arraycopy(from.first, 0, first, 0, ROWS);
            System.arraycopy(from.last, 0, last, 0, ROWS);
            System.arraycopy(from.amounts, 0, amounts, 0, ROWS);
            if (lotOf.length < from.used) {
                lotOf = new int[from.lotOf.length];
                rations = new int[from.lotOf.length];
                next = new int[from.lotOf.length];
            }
            System.arraycopy(from.lotOf, 0, lotOf, 0, from.used);
            System.arraycopy(from.rations, 0, rations, 0, from.used);
            System.arraycopy(from.next, 0, next, 0, from.used);
            used = from.used;
            free = from.free;
        }

        int amount(int row) {
            return within(row, ROWS) ? amounts[row] : 0;
        }

        int amountIn(int firstRow, int behindRow) {
            int all = 0;
            for (int row = firstRow; row < behindRow; row++) {
                all += amount(row);
            }
            return all;
        }

        int amountOf(int row, int lot) {
            int all = 0;
            int run = within(row, ROWS) ? first[row] : NONE;
            for (int i = 0; i < RATIONS_MOST && within(run, used); i++) {
                all += lotOf[run] == lot ? rations[run] : 0;
                run = next[run];
            }
            return all;
        }

        int firstLot(int row) {
            int run = within(row, ROWS) ? first[row] : NONE;
            return within(run, used) ? lotOf[run] : NONE;
        }

        void add(int row, int lot, int many) {
            if (!within(row, ROWS) || many <= 0) {
                return;
            }
            amounts[row] += many;
            int tail = last[row];
            if (within(tail, used) && lotOf[tail] == lot) {
                rations[tail] += many;
                return;
            }
            int run = freshRun(lot, many);
            if (within(tail, used)) {
                next[tail] = run;
            } else {
                first[row] = run;
            }
            last[row] = run;
        }

        private int freshRun(int lot, int many) {
            int run = free;
            if (within(run, used)) {
                free = next[run];
            } else {
                run = used;
                used++;
            }
            if (run >= lotOf.length) {
                lotOf = Arrays.copyOf(lotOf, 2 * used);
                rations = Arrays.copyOf(rations, 2 * used);
                next = Arrays.copyOf(next, 2 * used);
            }
            lotOf[run] = lot;
            rations[run] = many;
            next[run] = NONE;
            return run;
        }

        /** Of the first run of a row go so many, or all that it has: how many went. */
        int drop(int row, int most) {
            int run = within(row, ROWS) ? first[row] : NONE;
            if (!within(run, used)) {
                return 0;
            }
            int gone = Math.min(most, rations[run]);
            rations[run] -= gone;
            amounts[row] -= gone;
            if (rations[run] == 0) {
                first[row] = next[run];
                last[row] = first[row] == NONE ? NONE : last[row];
                next[run] = free;
                free = run;
            }
            return gone;
        }
    }

    /** THE BOOK: the numbers of its lines, one line behind the other. */
    private static final class Book {
        int lines;
        private final int[] numbers = new int[LINES_KEPT * LINE_NUMBERS];

        void copy(Book from) {
            lines = from.lines;
            System.arraycopy(from.numbers, 0, numbers, 0, from.kept() * LINE_NUMBERS);
        }

        private int kept() {
            return Math.min(lines, LINES_KEPT);
        }

        void write(int what, int day, int party, int camp, int lot, int many) {
            int start = kept() * LINE_NUMBERS;
            lines++;
            if (start + LINE_NUMBERS > numbers.length) {
                return;
            }
            numbers[start] = what;
            numbers[start + 1] = day;
            numbers[start + 2] = party;
            numbers[start + 3] = camp;
            numbers[start + 4] = lot;
            numbers[start + 5] = many;
        }

        int number(int k, int what) {
            return within(k, kept()) && within(what, LINE_NUMBERS) ? numbers[k * LINE_NUMBERS + what] : NONE;
        }
    }

    /** The TOKENS of a tape; what is none stands among them as NO_TOKEN, and the end behind them all. */
    private static final class Tokens {
        private final int[] kinds = new int[TAPE_MOST + 1];
        private final int[] values = new int[TAPE_MOST + 1];
        private final int[] places = new int[TAPE_MOST + 1];
        private int size;

        void split(int[] tape, int length) {
            size = 0;
            int at = 0;
            for (int i = 0; i < length && within(at, length) && length <= tape.length; i++) {
                at = pass(tape, at, length);
            }
            put(TAPE_END, 0, length);
        }

        int kind(int index) {
            return within(index, size) ? kinds[index] : TAPE_END;
        }

        int value(int index) {
            return within(index, size) ? values[index] : 0;
        }

        int place(int index) {
            return within(index, size) ? places[index] : NONE;
        }

        private void put(int kind, int value, int place) {
            if (within(size, kinds.length)) {
                kinds[size] = kind;
                values[size] = value;
                places[size] = place;
                size++;
            }
        }

        /** Puts what begins at a place inside the tape: the place behind it. */
        private int pass(int[] tape, int at, int length) {
            int sign = tape[at];
            int behind = at + 1;
            if (isLetter(sign)) {
                while (behind < length && isLetter(tape[behind])) {
                    behind++;
                }
                put(wordKind(tape, at, behind), sign - 'a', at);
            } else if (isDigit(sign)) {
                while (behind < length && isDigit(tape[behind])) {
                    behind++;
                }
                put(behind - at <= 5 ? NUMBER : NO_TOKEN, numberIn(tape, at, Math.min(behind, at + 5)), at);
            } else if (sign != 10 && sign != 32) {
                int index = SIGNS.indexOf((char) sign);
                put(index < 0 ? NO_TOKEN : SIGN + index, 0, at);
            }
            return behind;
        }

        private static boolean isLetter(int sign) {
            return sign >= 'a' && sign <= 'z';
        }

        private static boolean isDigit(int sign) {
            return sign >= '0' && sign <= '9';
        }

        private static int numberIn(int[] tape, int at, int behind) {
            int number = 0;
            for (int i = at; i < behind && i < tape.length; i++) {
                number = number * 10 + tape[i] - '0';
            }
            return number;
        }

        private static int wordKind(int[] tape, int at, int behind) {
            if (behind - at == 1) {
                return NAME;
            }
            int kind = 0;
            int seen = at;
            boolean same = true;
            for (int i = 0; i < WORDS.length(); i++) {
                int sign = WORDS.charAt(i);
                if (sign != ' ') {
                    same = same && within(seen, behind) && within(seen, tape.length) && tape[seen] == sign;
                    seen++;
                } else if (same && seen == behind) {
                    return kind;
                } else {
                    kind++;
                    seen = at;
                    same = true;
                }
            }
            return NO_TOKEN;
        }
    }

    /**
     * Reads a tape as ORDERS and makes steps of them. Each method of the text's rules stops at the first token that
     * does not fit, so that this is the place of the fault.
     */
    private static final class Reader {
        int fault = NO_FAULT;
        int faultPlace = NONE;
        int statements;
        private final Tokens tokens = new Tokens();
        private int at;
        private int placeTooMany;
        private final int[] steps = new int[(TAPE_MOST + 1) * STEP];
        private int size;

        void read(int[] tape, int length) {
            tokens.split(tape, length);
            at = 0;
            size = 0;
            statements = 0;
            if (!list(0) || tokens.kind(at) != TAPE_END) {
                fault = FAULT_TEXT;
                faultPlace = tokens.place(at);
            } else if (statements > STATEMENTS_MOST) {
                fault = FAULT_TOO_MANY;
                faultPlace = placeTooMany;
            } else {
                fault = NO_FAULT;
                faultPlace = NONE;
            }
        }

        int[] steps() {
            return Arrays.copyOf(steps, size);
        }

        private boolean list(int blocks) {
            boolean good = true;
            for (int i = 0; good && i < TAPE_MOST && isStatement(tokens.kind(at)); i++) {
                good = statement(blocks);
            }
            return good;
        }

        private static boolean isStatement(int kind) {
            return kind == NAME || kind >= MARCH && kind <= WHILE && kind != ELSE;
        }

        private boolean statement(int blocks) {
            int kind = tokens.kind(at);
            int value = tokens.value(at);
            int start = size;
            statements++;
            if (statements == STATEMENTS_MOST + 1) {
                placeTooMany = tokens.place(at);
            }
            at++;
            emit(BEGIN, 0);
            switch (kind) {
                case IF:
                    return choice(blocks);
                case WHILE:
                    return loop(blocks, start);
                case TAKE:
                case LAY:
                case LEAVE:
                    return chain(COMPARISONS, 1) && closed(kind, 0);
                case NAME:
                    return expect(EQUAL) && chain(COMPARISONS, 1) && closed(SET, value);
                default:
                    return closed(kind, 0);
            }
        }

        private boolean closed(int kind, int value) {
            emit(kind, value);
            return expect(SEMICOLON);
        }

        private boolean choice(int blocks) {
            if (!chain(COMPARISONS, 1)) {
                return false;
            }
            int past = emit(UNLESS, 0);
            boolean good = block(blocks);
            if (good && tokens.kind(at) == ELSE) {
                at++;
                int pastElse = emit(JUMP, 0);
                aimHere(past);
                good = block(blocks);
                aimHere(pastElse);
            } else {
                aimHere(past);
            }
            return good;
        }

        private boolean loop(int blocks, int start) {
            if (!chain(COMPARISONS, 1)) {
                return false;
            }
            int past = emit(UNLESS, 0);
            boolean good = block(blocks);
            emit(JUMP, start);
            aimHere(past);
            return good;
        }

        private boolean block(int blocks) {
            return blocks < BLOCKS_OPEN_MOST && expect(BLOCK_OPEN) && list(blocks + 1) && expect(BLOCK_SHUT);
        }

        /** E, P and T: they differ in their signs, and E has one of them at most. */
        private boolean chain(int level, int open) {
            if (level >= OPERANDS) {
                return operand(open);
            }
            int most = level == COMPARISONS ? 1 : TAPE_MOST;
            boolean good = chain(level + 1, open);
            for (int i = 0; good && i < most && levelOf(tokens.kind(at)) == level; i++) {
                int sign = tokens.kind(at);
                at++;
                good = chain(level + 1, open);
                emit(sign, 0);
            }
            return good;
        }

        private static int levelOf(int kind) {
            if (kind >= EQUAL && kind <= GREATER) {
                return COMPARISONS;
            }
            if (kind == PLUS || kind == MINUS) {
                return SUMS;
            }
            return kind >= TIMES && kind <= REMAINDER ? PRODUCTS : NONE;
        }

        private boolean operand(int open) {
            boolean negative = tokens.kind(at) == MINUS;
            if (negative) {
                at++;
            }
            int kind = tokens.kind(at);
            boolean good;
            if (kind == ROUND_OPEN) {
                at++;
                good = open < EXPRESSIONS_OPEN_MOST && chain(COMPARISONS, open + 1) && expect(ROUND_SHUT);
            } else {
                good = isValue(kind);
                if (good) {
                    emit(kind, tokens.value(at));
                    at++;
                }
            }
            if (negative) {
                emit(NEGATE, 0);
            }
            return good;
        }

        private boolean expect(int kind) {
            if (tokens.kind(at) != kind) {
                return false;
            }
            at++;
            return true;
        }

        /** No text has more steps than tokens, so there is always room: where the step stands. */
        private int emit(int kind, int value) {
            int start = size;
            if (start + 1 < steps.length) {
                steps[start] = kind;
                steps[start + 1] = value;
                size = start + STEP;
            }
            return start;
        }

        private void aimHere(int jump) {
            if (jump >= 0 && jump + 1 < steps.length) {
                steps[jump + 1] = size;
            }
        }
    }

    private static boolean isValue(int kind) {
        return kind >= FOOD && kind <= NUMBER;
    }

    /** Leads the parties of a world through a day; the values that wait in an E are kept here for all of them. */
    private static final class Guide {
        private final int[] stack = new int[STACK];
        private int height;
        private int begun;

        void passDay(World w) {
            for (int i = 0; i < PARTIES_MOST; i++) {
                Party p = w.partyOf(i);
                if (p != null && !p.isLost()) {
                    walk(w, p);
                }
            }
            for (int i = 0; i < PARTIES_MOST; i++) {
                Party p = w.partyOf(i);
                if (p != null && !p.isLost()) {
                    w.meal(p);
                }
            }
            w.day++;
        }

        private void walk(World w, Party p) {
            int from = p.camp;
            int[] steps = p.steps;
            boolean goesOn = true;
            p.counted = 0;
            height = 0;
            for (int i = 0; goesOn && i < STEPS_OF_A_DAY && p.at >= 0 && p.at + 1 < steps.length; i++) {
                int kind = steps[p.at];
                int value = steps[p.at + 1];
                p.at += STEP;
                if (isValue(kind)) {
                    push(valueOf(w, p, kind, value));
                } else if (isSign(kind)) {
                    combine(kind);
                } else {
                    goesOn = act(w, p, kind, value);
                }
            }
            p.stayed += p.camp == from ? 1 : 0;
        }

        private static boolean isSign(int kind) {
            return kind >= EQUAL && kind <= REMAINDER || kind == NEGATE;
        }

        /** Whether the day goes on behind this step. */
        private boolean act(World w, Party p, int kind, int value) {
            switch (kind) {
                case BEGIN:
                    return counts(p);
                case UNLESS:
                    p.at = pop() == 0 ? value : p.at;
                    return true;
                case JUMP:
                    p.at = value;
                    return true;
                case SET:
                    p.setName(value, pop());
                    return true;
                case TAKE:
                    w.move(TAKEN, p, Math.min(pop(), w.room(p)));
                    return true;
                case LAY:
                    w.move(LAID, p, pop());
                    return true;
                case LEAVE:
                    w.leaveLetter(p.camp, pop());
                    return true;
                case MARCH:
                    go(w, p, p.camp + 1);
                    return false;
                case BACK:
                    go(w, p, p.camp - 1);
                    return false;
                case STOP:
                    p.at = p.steps.length;
                    return false;
                default:
                    return false;
            }
        }

        private boolean counts(Party p) {
            begun = p.at - STEP;
            if (p.counted >= COUNTED_MOST) {
                p.at = begun;
                return false;
            }
            p.counted++;
            return true;
        }

        private void go(World w, Party p, int camp) {
            if (w.isStorm() || camp >= CAMPS) {
                p.at = begun;
            } else if (camp >= 0) {
                p.camp = camp;
            }
        }

        private static int valueOf(World w, Party p, int kind, int value) {
            switch (kind) {
                case NUMBER:
                    return value;
                case NAME:
                    return p.nameOf(value);
                case FOOD:
                    return w.rows.amount(p.row());
                case STORE:
                    return w.rows.amount(p.camp);
                case ROOM:
                    return w.room(p);
                case CAMP:
                    return p.camp;
                case DAY:
                    return w.day;
                case MEN:
                    return p.men;
                case STORM:
                    return w.isStorm() ? 1 : 0;
                case LETTER:
                    return w.letterAt(p.camp);
                default:
                    return p.hunger;
            }
        }

        private void combine(int sign) {
            int right = pop();
            if (sign == NEGATE) {
                push(-right);
                return;
            }
            push(result(pop(), sign, right));
        }

        private static int result(int left, int sign, int right) {
            switch (sign) {
                case EQUAL:
                    return left == right ? 1 : 0;
                case LESS:
                    return left < right ? 1 : 0;
                case GREATER:
                    return left > right ? 1 : 0;
                case PLUS:
                    return left + right;
                case MINUS:
                    return left - right;
                case TIMES:
                    return left * right;
                case OVER:
                    return right == 0 ? 0 : left / right;
                default:
                    return right == 0 ? 0 : left % right;
            }
        }

        private void push(int value) {
            if (within(height, stack.length)) {
                stack[height] = value;
                height++;
            }
        }

        private int pop() {
            if (!within(height - 1, stack.length)) {
                return 0;
            }
            height--;
            return stack[height];
        }
    }
}
