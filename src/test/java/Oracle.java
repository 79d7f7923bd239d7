import java.util.ArrayDeque;
import java.util.ArrayList;
import java.util.Deque;
import java.util.List;

/**
 * The document told a second time, plainly and with the Java library: each ration is an object in a queue, orders are a
 * tree, and a party keeps the blocks that it stands in. OracleTest compares its answers with those of the class.
 */
final class Oracle {
    private final StringBuilder tape = new StringBuilder();
    private int fault;
    private int faultPlace = -1;
    private Land land = new Land();
    private final Land[] images = new Land[3];

    /** A statement, or a block's owner. */
    private static final class S {
        String word;
        int name;
        E value;
        List<S> then;
        List<S> otherwise;
    }

    /** An expression: a leaf's word or number, or a sign over one or two others. */
    private static final class E {
        final String sign;
        final int number;
        final E left;
        final E right;

        E(String sign, int number, E left, E right) {
            this.sign = sign;
            this.number = number;
            this.left = left;
            this.right = right;
        }
    }

    private static final class Frame {
        final List<S> list;
        final S loop;
        int index;

        Frame(List<S> list, S loop, int index) {
            this.list = list;
            this.loop = loop;
            this.index = index;
        }
    }

    private static final class Group {
        int men;
        int carry;
        int camp;
        int hunger;
        int stayed;
        int counted;
        final int[] names = new int[26];
        final int[] eaten = new int[20];
        final ArrayDeque<Integer> food = new ArrayDeque<>();
        final ArrayList<Frame> frames = new ArrayList<>();

        boolean lost() {
            return hunger == 3;
        }

        Group copy() {
            Group c = new Group();
            c.men = men;
            c.carry = carry;
            c.camp = camp;
            c.hunger = hunger;
            c.stayed = stayed;
            c.counted = counted;
            System.arraycopy(names, 0, c.names, 0, 26);
            System.arraycopy(eaten, 0, c.eaten, 0, 20);
            c.food.addAll(food);
            for (Frame f : frames) {
                c.frames.add(new Frame(f.list, f.loop, f.index));
            }
            return c;
        }
    }

    private static final class Land {
        int day;
        final boolean[] storms = new boolean[400];
        final List<Integer> lots = new ArrayList<>();
        final List<ArrayDeque<Integer>> stores = new ArrayList<>();
        final Integer[] letters = new Integer[16];
        final List<Group> groups = new ArrayList<>();
        final List<int[]> book = new ArrayList<>();

        Land() {
            for (int i = 0; i < 16; i++) {
                stores.add(new ArrayDeque<>());
            }
        }

        Land copy() {
            Land c = new Land();
            c.day = day;
            System.arraycopy(storms, 0, c.storms, 0, 400);
            c.lots.addAll(lots);
            for (int i = 0; i < 16; i++) {
                c.stores.get(i).addAll(stores.get(i));
                c.letters[i] = letters[i];
            }
            for (Group g : groups) {
                c.groups.add(g.copy());
            }
            c.book.addAll(book);
            return c;
        }

        void pass() {
            for (int i = 0; i < groups.size(); i++) {
                if (!groups.get(i).lost()) {
                    int camp = groups.get(i).camp;
                    walk(i, groups.get(i));
                    if (camp == groups.get(i).camp) {
                        groups.get(i).stayed++;
                    }
                }
            }
            for (int i = 0; i < groups.size(); i++) {
                Group g = groups.get(i);
                if (!g.lost()) {
                    boolean enough = g.food.size() >= g.men;
                    carry(3, i, g, g.men);
                    g.hunger = enough ? 0 : g.hunger + 1;
                }
            }
            day++;
        }

        void walk(int number, Group g) {
            g.counted = 0;
            while (!g.frames.isEmpty()) {
                Frame f = g.frames.get(g.frames.size() - 1);
                boolean atEnd = f.index == f.list.size();
                if (atEnd && f.loop == null) {
                    g.frames.remove(g.frames.size() - 1);
                    continue;
                }
                if (g.counted == 300) {
                    return;
                }
                g.counted++;
                if (atEnd) {
                    if (ask(g, f.loop.value) != 0) {
                        f.index = 0;
                    } else {
                        g.frames.remove(g.frames.size() - 1);
                    }
                } else if (!does(number, g, f, f.list.get(f.index))) {
                    return;
                }
            }
        }

        boolean does(int number, Group g, Frame f, S s) {
            boolean held = storms[day] || s.word.equals("march") && g.camp == 15;
            if ((s.word.equals("march") || s.word.equals("back")) && held) {
                return false;
            }
            f.index++;
            switch (s.word) {
                case "march" -> g.camp++;
                case "back" -> g.camp = Math.max(0, g.camp - 1);
                case "stop" -> g.frames.clear();
                case "take" -> carry(1, number, g, Math.min(ask(g, s.value), g.carry - g.food.size()));
                case "lay" -> carry(2, number, g, ask(g, s.value));
                case "leave" -> letters[g.camp] = ask(g, s.value);
                case "=" -> g.names[s.name] = ask(g, s.value);
                case "if" -> g.frames.add(new Frame(ask(g, s.value) != 0 ? s.then : s.otherwise, null, 0));
                case "while" -> {
                    if (ask(g, s.value) != 0) {
                        g.frames.add(new Frame(s.then, s, 0));
                    }
                }
                default -> { }
            }
            return !List.of("march", "back", "rest", "stop").contains(s.word);
        }

        void carry(int what, int number, Group g, int wanted) {
            Deque<Integer> from = what == 1 ? stores.get(g.camp) : g.food;
            Deque<Integer> to = what == 1 ? g.food : stores.get(g.camp);
            int[] line = null;
            for (int i = 0; i < wanted && !from.isEmpty(); i++) {
                int lot = from.poll();
                if (what == 3) {
                    g.eaten[lot]++;
                } else {
                    to.add(lot);
                }
                if (line != null && line[4] == lot) {
                    line[5]++;
                } else {
                    line = new int[] {what, day, number, g.camp, lot, 1};
                    book.add(line);
                }
            }
        }

        int ask(Group g, E e) {
            if (e.left != null && e.right != null) {
                long a = ask(g, e.left);
                long b = ask(g, e.right);
                return switch (e.sign) {
                    case "=" -> a == b ? 1 : 0;
                    case "<" -> a < b ? 1 : 0;
                    case ">" -> a > b ? 1 : 0;
                    case "+" -> (int) (a + b);
                    case "-" -> (int) (a - b);
                    case "*" -> (int) (a * b);
                    case "/" -> b == 0 ? 0 : (int) (a / b);
                    default -> b == 0 ? 0 : (int) (a % b);
                };
            }
            return switch (e.sign) {
                case "-" -> -ask(g, e.left);
                case "number" -> e.number;
                case "name" -> g.names[e.number];
                case "food" -> g.food.size();
                case "store" -> stores.get(g.camp).size();
                case "room" -> g.carry - g.food.size();
                case "camp" -> g.camp;
                case "day" -> day;
                case "men" -> g.men;
                case "storm" -> storms[day] ? 1 : 0;
                case "letter" -> letters[g.camp] == null ? -1 : letters[g.camp];
                default -> g.hunger;
            };
        }
    }

    /** Where a text goes wrong. */
    private static final class Wrong extends Exception {
        private static final long serialVersionUID = 1L;
    }

    private static final List<String> FIRST_WORDS =
            List.of("march", "back", "rest", "stop", "take", "lay", "leave", "if", "while");
    private static final List<String> VALUES =
            List.of("food", "store", "room", "camp", "day", "men", "storm", "letter", "hunger");

    /** Reads the tape byte by byte, without a list of tokens. */
    private final class Parser {
        int at;
        String token;
        int place;
        int count;
        int tooMany = -1;

        void next() {
            while (at < tape.length() && (tape.charAt(at) == 10 || tape.charAt(at) == 32)) {
                at++;
            }
            place = at;
            int end = at;
            while (end < tape.length() && Character.isDigit(tape.charAt(end)) && tape.charAt(end) < 128) {
                end++;
            }
            if (end == at) {
                while (end < tape.length() && tape.charAt(end) >= 'a' && tape.charAt(end) <= 'z') {
                    end++;
                }
            }
            if (end == at && at < tape.length()) {
                end++;
            }
            token = tape.substring(at, end);
            at = end;
        }

        boolean isName() {
            return token.matches("[a-z]");
        }

        void must(String sign) throws Wrong {
            if (!token.equals(sign)) {
                throw new Wrong();
            }
            next();
        }

        List<S> text() throws Wrong {
            next();
            List<S> list = many(0);
            if (!token.isEmpty()) {
                throw new Wrong();
            }
            return list;
        }

        List<S> many(int blocks) throws Wrong {
            List<S> list = new ArrayList<>();
            while (isName() || FIRST_WORDS.contains(token)) {
                count++;
                if (count == 61) {
                    tooMany = place;
                }
                list.add(one(blocks));
            }
            return list;
        }

        S one(int blocks) throws Wrong {
            S s = new S();
            s.word = isName() ? "=" : token;
            s.name = token.charAt(0) - 'a';
            next();
            if (s.word.equals("=")) {
                must("=");
            }
            if (!List.of("march", "back", "rest", "stop").contains(s.word)) {
                s.value = compare(1);
            }
            if (s.word.equals("if") || s.word.equals("while")) {
                s.then = block(blocks);
                s.otherwise = new ArrayList<>();
                if (s.word.equals("if") && token.equals("else")) {
                    next();
                    s.otherwise = block(blocks);
                }
            } else {
                must(";");
            }
            return s;
        }

        List<S> block(int blocks) throws Wrong {
            if (blocks == 6) {
                throw new Wrong();
            }
            must("{");
            List<S> list = many(blocks + 1);
            must("}");
            return list;
        }

        E compare(int open) throws Wrong {
            if (open > 8) {
                throw new Wrong();
            }
            E e = sum(open);
            if (token.matches("[=<>]")) {
                String sign = token;
                next();
                e = new E(sign, 0, e, sum(open));
            }
            return e;
        }

        E sum(int open) throws Wrong {
            E e = product(open);
            while (token.matches("[+-]")) {
                String sign = token;
                next();
                e = new E(sign, 0, e, product(open));
            }
            return e;
        }

        E product(int open) throws Wrong {
            E e = unary(open);
            while (token.matches("[*/%]")) {
                String sign = token;
                next();
                e = new E(sign, 0, e, unary(open));
            }
            return e;
        }

        E unary(int open) throws Wrong {
            if (token.equals("-")) {
                next();
                return new E("-", 0, atom(open), null);
            }
            return atom(open);
        }

        E atom(int open) throws Wrong {
            E e;
            if (token.matches("[0-9]{1,5}")) {
                e = new E("number", Integer.parseInt(token), null, null);
            } else if (isName()) {
                e = new E("name", token.charAt(0) - 'a', null, null);
            } else if (VALUES.contains(token)) {
                e = new E(token, 0, null, null);
            } else if (token.equals("(")) {
                next();
                e = compare(open + 1);
                if (!token.equals(")")) {
                    throw new Wrong();
                }
            } else {
                throw new Wrong();
            }
            next();
            return e;
        }
    }

    int feed(int a, int b, int c, int d, int e) {
        if (tape.length() > 480) {
            return -1;
        }
        for (int number : new int[] {a, b, c, d, e}) {
            for (int i = 3; i >= 0; i--) {
                tape.append((char) (number >> 8 * i & 255));
            }
        }
        return tape.length();
    }

    int end(int n) {
        if (n < 0 || n > tape.length()) {
            return -1;
        }
        tape.setLength(n);
        return n;
    }

    int party(int men, int carry) {
        if (men < 1 || men > 6 || carry < 1 || carry > 200 || land.groups.size() == 6) {
            return -1;
        }
        Group g = new Group();
        g.men = men;
        g.carry = carry;
        land.groups.add(g);
        return land.groups.size() - 1;
    }

    int orders(int party) {
        if (party < 0 || party >= land.groups.size() || land.groups.get(party).lost()) {
            return -2;
        }
        Parser parser = new Parser();
        fault = 0;
        faultPlace = -1;
        List<S> list = null;
        try {
            list = parser.text();
            if (parser.tooMany >= 0) {
                fault = 2;
                faultPlace = parser.tooMany;
            }
        } catch (Wrong w) {
            fault = 1;
            faultPlace = parser.place;
        }
        tape.setLength(0);
        if (fault != 0) {
            return -1;
        }
        land.groups.get(party).frames.clear();
        land.groups.get(party).frames.add(new Frame(list, null, 0));
        return parser.count;
    }

    int fault(int what) {
        return what == 0 ? fault : what == 1 ? faultPlace : -1;
    }

    int land(int rations) {
        if (rations < 1 || rations > 500 || land.lots.size() == 20) {
            return -1;
        }
        int lot = land.lots.size();
        land.lots.add(rations);
        for (int i = 0; i < rations; i++) {
            land.stores.get(0).add(lot);
        }
        land.book.add(new int[] {0, land.day, -1, 0, lot, rations});
        return lot;
    }

    boolean storm(int day, boolean is) {
        if (day < land.day || day > 399 || land.storms[day] == is) {
            return false;
        }
        land.storms[day] = is;
        return true;
    }

    int days(int n) {
        if (n < 1 || n > 50 || land.day + n > 400) {
            return -1;
        }
        for (int i = 0; i < n; i++) {
            land.pass();
        }
        return land.day;
    }

    int ahead(int n, int what) {
        if (n < 1 || n > 50 || land.day + n > 400 || what < 0 || what > 2) {
            return -2;
        }
        Land then = land.copy();
        int hungry = -1;
        for (int i = 0; i < n; i++) {
            then.pass();
            for (int p = 0; p < then.groups.size(); p++) {
                if (hungry < 0 && !land.groups.get(p).lost() && then.groups.get(p).hunger > 0) {
                    hungry = land.day + i;
                }
            }
        }
        if (what == 0) {
            return hungry;
        }
        return what == 1 ? (int) then.groups.stream().filter(Group::lost).count()
                : then.stores.stream().mapToInt(ArrayDeque::size).sum();
    }

    int tell(int party, int what) {
        if (party < 0 || party >= land.groups.size() || what < 0 || what > 35) {
            return -1;
        }
        Group g = land.groups.get(party);
        boolean over = true;
        for (Frame f : g.frames) {
            over &= f.index == f.list.size() && f.loop == null;
        }
        int[] told = {g.men, g.carry, g.food.size(), g.camp, g.hunger, g.lost() ? 1 : 0, sum(g.eaten), g.stayed,
            over ? 1 : 0, g.counted};
        return what < 10 ? told[what] : g.names[what - 10];
    }

    private static int sum(int[] numbers) {
        int all = 0;
        for (int number : numbers) {
            all += number;
        }
        return all;
    }

    int camp(int camp, int what) {
        if (camp < 0 || camp > 15 || what < 0 || what > 3) {
            return -1;
        }
        int there = (int) land.groups.stream().filter(g -> g.camp == camp && !g.lost()).count();
        ArrayDeque<Integer> store = land.stores.get(camp);
        int letter = land.letters[camp] == null ? -1 : land.letters[camp];
        int first = store.isEmpty() ? -1 : store.peek();
        return new int[] {store.size(), letter, there, first}[what];
    }

    private static int in(ArrayDeque<Integer> row, int lot) {
        return (int) row.stream().filter(r -> r == lot).count();
    }

    int lot(int lot, int what) {
        if (lot < 0 || lot >= land.lots.size()) {
            return -1;
        }
        int parties = land.groups.size();
        if (what == 0) {
            return land.lots.get(lot);
        }
        if (what == 1) {
            return land.stores.stream().mapToInt(s -> in(s, lot)).sum();
        }
        if (what == 2) {
            return land.groups.stream().mapToInt(g -> in(g.food, lot)).sum();
        }
        if (what == 3) {
            return land.groups.stream().mapToInt(g -> g.eaten[lot]).sum();
        }
        if (what >= 10 && what <= 25) {
            return in(land.stores.get(what - 10), lot);
        }
        if (what >= 30 && what - 30 < parties) {
            return in(land.groups.get(what - 30).food, lot);
        }
        if (what >= 40 && what - 40 < parties) {
            return land.groups.get(what - 40).eaten[lot];
        }
        return -1;
    }

    int line(int k, int what) {
        if (k < 0 || k >= Math.min(600, land.book.size()) || what < 0 || what > 5) {
            return -1;
        }
        return land.book.get(k)[what];
    }

    int count(int what) {
        if (what < 0 || what > 8) {
            return -1;
        }
        return new int[] {land.day, land.groups.size(), land.lots.size(), land.book.size(),
            land.lots.stream().mapToInt(l -> l).sum(), land.groups.stream().mapToInt(g -> sum(g.eaten)).sum(),
            land.stores.stream().mapToInt(ArrayDeque::size).sum(),
            land.groups.stream().mapToInt(g -> g.food.size()).sum(),
            (int) land.groups.stream().filter(Group::lost).count()}[what];
    }

    int need(int carry, int camp) {
        if (carry < 3 || carry > 200 || camp < 0 || camp > 15) {
            return -1;
        }
        if (camp == 0) {
            return 0;
        }
        int before = need(carry, camp - 1);
        int trips = 1;
        while (trips * (carry - 2) < before) {
            trips++;
        }
        return before + 2 * trips;
    }

    int far(int carry, int rations) {
        if (carry < 3 || carry > 200 || rations < 0 || rations > 1000000) {
            return -1;
        }
        int camp = 15;
        while (need(carry, camp) > rations) {
            camp--;
        }
        return camp;
    }

    boolean image(int k) {
        if (k < 0 || k > 2) {
            return false;
        }
        images[k] = land.copy();
        return true;
    }

    boolean again(int k) {
        if (k < 0 || k > 2 || images[k] == null) {
            return false;
        }
        land = images[k].copy();
        return true;
    }
}
