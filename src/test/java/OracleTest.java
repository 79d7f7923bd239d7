import java.util.Random;

/** Runs of calls by chance (always the same ones), each answer compared with the Oracle's, and all that is told. */
public final class OracleTest {
    private static final Due DUE = new Due("OracleTest");
    private static final int RUNS = 400;
    private static final int CALLS = 120;

    private final Random random;
    private final Texts texts;
    private final DepotMarch march = new DepotMarch();
    private final Oracle oracle = new Oracle();
    private final String run;

    private OracleTest(int seed) {
        random = new Random(seed);
        texts = new Texts(random);
        run = "run " + seed + ": ";
    }

    public static void main(String[] args) {
        int runs = args.length > 0 ? Integer.parseInt(args[0]) : RUNS;
        int first = args.length > 1 ? Integer.parseInt(args[1]) : 0;
        for (int seed = first; seed < first + runs; seed++) {
            OracleTest test = new OracleTest(seed);
            for (int i = 0; i < CALLS; i++) {
                test.call();
            }
            test.compareAll();
        }
        DUE.finish();
    }

    /** Mostly inside the bounds, now and then at them or outside. */
    private int number(int least, int most) {
        int[] edges = {least - 1, least, most, most + 1, Integer.MIN_VALUE, Integer.MAX_VALUE, 0, -1};
        return random.nextInt(12) == 0 ? edges[random.nextInt(edges.length)]
                : least + random.nextInt(most - least + 1);
    }

    private void is(String call, int got, int want) {
        DUE.is(run + call, got, want);
    }

    private void is(String call, boolean got, boolean want) {
        DUE.is(run + call, got, want);
    }

    private void call() {
        switch (random.nextInt(22)) {
            case 0, 1, 2, 3 -> newOrders();
            case 4, 5 -> newParty();
            case 6, 7 -> newLot();
            case 8, 9 -> storm();
            case 10, 11, 12, 13 -> days();
            case 14, 15 -> ahead();
            case 16 -> looseTape();
            case 17 -> image();
            case 18 -> again();
            case 19 -> needAndFar();
            default -> looseTells();
        }
        if (random.nextInt(6) == 0) {
            compareAll();
        }
    }

    private void newOrders() {
        String text = texts.next();
        is("end(0)", march.end(0), oracle.end(0));
        for (int i = 0; i < text.length(); i += 20) {
            int[] w = {Due.word(text, i), Due.word(text, i + 4), Due.word(text, i + 8), Due.word(text, i + 12),
                Due.word(text, i + 16)};
            is("feed", march.feed(w[0], w[1], w[2], w[3], w[4]), oracle.feed(w[0], w[1], w[2], w[3], w[4]));
        }
        is("end(" + text.length() + ")", march.end(text.length()), oracle.end(text.length()));
        int party = number(0, 5);
        is("orders(" + party + ") of '" + text + "'", march.orders(party), oracle.orders(party));
        is("fault(0) of '" + text + "'", march.fault(0), oracle.fault(0));
        is("fault(1) of '" + text + "'", march.fault(1), oracle.fault(1));
    }

    private void newParty() {
        int men = number(1, 6);
        int carry = number(1, 200);
        is("party(" + men + ", " + carry + ")", march.party(men, carry), oracle.party(men, carry));
    }

    private void newLot() {
        int rations = number(1, random.nextBoolean() ? 20 : 500);
        is("land(" + rations + ")", march.land(rations), oracle.land(rations));
    }

    private void storm() {
        int day = random.nextBoolean() ? number(0, 399) : march.count(0) + random.nextInt(6);
        boolean is = random.nextInt(4) != 0;
        is("storm(" + day + ", " + is + ")", march.storm(day, is), oracle.storm(day, is));
    }

    private void days() {
        int n = number(1, random.nextInt(4) == 0 ? 50 : 5);
        is("days(" + n + ")", march.days(n), oracle.days(n));
    }

    private void ahead() {
        int n = number(1, 50);
        int what = number(0, 2);
        is("ahead(" + n + ", " + what + ")", march.ahead(n, what), oracle.ahead(n, what));
    }

    private void looseTape() {
        int a = random.nextInt();
        int b = random.nextInt();
        is("feed", march.feed(a, b, a, b, a), oracle.feed(a, b, a, b, a));
        int n = number(0, 60);
        is("end(" + n + ")", march.end(n), oracle.end(n));
        int what = number(0, 1);
        is("fault(" + what + ")", march.fault(what), oracle.fault(what));
    }

    private void image() {
        int k = number(0, 2);
        is("image(" + k + ")", march.image(k), oracle.image(k));
    }

    private void again() {
        int k = number(0, 2);
        is("again(" + k + ")", march.again(k), oracle.again(k));
    }

    private void needAndFar() {
        int carry = number(3, random.nextBoolean() ? 200 : 12);
        int camp = number(0, 15);
        int rations = number(0, random.nextBoolean() ? 1000000 : 500);
        is("need(" + carry + ", " + camp + ")", march.need(carry, camp), oracle.need(carry, camp));
        is("far(" + carry + ", " + rations + ")", march.far(carry, rations), oracle.far(carry, rations));
    }

    private void looseTells() {
        for (int i = 0; i < 10; i++) {
            int k = number(0, 20);
            int what = number(0, 50);
            String both = "(" + k + ", " + what + ")";
            is("tell" + both, march.tell(k, what), oracle.tell(k, what));
            is("camp" + both, march.camp(k, what), oracle.camp(k, what));
            is("lot" + both, march.lot(k, what), oracle.lot(k, what));
            is("line" + both, march.line(k, what), oracle.line(k, what));
            is("count(" + what + ")", march.count(what), oracle.count(what));
        }
    }

    private void compareAll() {
        for (int what = 0; what < 9; what++) {
            is("count(" + what + ")", march.count(what), oracle.count(what));
        }
        for (int party = 0; party < 6; party++) {
            for (int what = 0; what < 36; what++) {
                is("tell(" + party + ", " + what + ")", march.tell(party, what), oracle.tell(party, what));
            }
        }
        for (int camp = 0; camp < 16; camp++) {
            for (int what = 0; what < 4; what++) {
                is("camp(" + camp + ", " + what + ")", march.camp(camp, what), oracle.camp(camp, what));
            }
        }
        for (int lot = 0; lot < march.count(2); lot++) {
            for (int what = 0; what < 47; what++) {
                is("lot(" + lot + ", " + what + ")", march.lot(lot, what), oracle.lot(lot, what));
            }
        }
        for (int k = 0; k <= Math.min(601, march.count(3)); k++) {
            for (int what = 0; what < 6; what++) {
                is("line(" + k + ", " + what + ")", march.line(k, what), oracle.line(k, what));
            }
        }
    }
}
