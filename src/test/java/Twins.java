import java.util.ArrayList;
import java.util.List;
import java.util.function.Consumer;
import java.util.function.ToIntFunction;

/**
 * Two objects that are made alike, one of which gets a further call that should change nothing: all that is told of
 * them, now and in the days that come, is compared. No object is asked more than its 512 calls, so they are made often.
 */
final class Twins {
    private static final int ASKED_AT_ONCE = 300;
    private static final int BLANKS = 0x20202020;

    /** A question with two numbers. */
    private interface Pair {
        int ask(DepotMarch march, int k, int what);
    }

    private static final class Questions extends ArrayList<ToIntFunction<DepotMarch>> {
        private static final long serialVersionUID = 1;

        void addPairs(int numbers, int mostWhat, Pair pair) {
            for (int k = 0; k < numbers; k++) {
                for (int what = 0; what <= mostWhat; what++) {
                    int number = k;
                    int w = what;
                    add(m -> pair.ask(m, number, w));
                }
            }
        }
    }

    private final Due due;
    private final Consumer<DepotMarch> making;

    Twins(Due due, Consumer<DepotMarch> making) {
        this.due = due;
        this.making = making;
    }

    /** The call's answer is due, and nothing is changed by it. */
    void unchanged(String name, int answer, ToIntFunction<DepotMarch> call) {
        unchangedButTheTape(name, answer, call);
        compare(name + ": the tape and the fault", tape(), call);
    }

    /** The same for orders with a FAULT: they take the tape. */
    void unchangedButTheTape(String name, int answer, ToIntFunction<DepotMarch> call) {
        due.is(name, call.applyAsInt(made()), answer);
        List<ToIntFunction<DepotMarch>> told = told();
        for (int from = 0; from < told.size(); from += ASKED_AT_ONCE) {
            compare(name + ": what is told", told.subList(from, Math.min(from + ASKED_AT_ONCE, told.size())), call);
        }
        compare(name + ": storms", storms(), call);
        compare(name + ": images", images(), call);
        compare(name + ": the days to come", daysToCome(), call);
    }

    static int number(boolean is) {
        return is ? 1 : 0;
    }

    private DepotMarch made() {
        DepotMarch march = new DepotMarch();
        making.accept(march);
        return march;
    }

    private void compare(String name, List<ToIntFunction<DepotMarch>> questions, ToIntFunction<DepotMarch> call) {
        DepotMarch one = made();
        DepotMarch other = made();
        call.applyAsInt(one);
        int differ = 0;
        for (ToIntFunction<DepotMarch> question : questions) {
            differ += question.applyAsInt(one) == question.applyAsInt(other) ? 0 : 1;
        }
        due.is(name + ": answers that differ", differ, 0);
    }

    private List<ToIntFunction<DepotMarch>> told() {
        Questions all = new Questions();
        DepotMarch probe = made();
        all.addPairs(1, 8, (m, k, what) -> m.count(what));
        all.addPairs(probe.count(1) + 1, 35, (m, k, what) -> m.tell(k, what));
        all.addPairs(16, 3, (m, k, what) -> m.camp(k, what));
        all.addPairs(probe.count(2) + 1, 45, (m, k, what) -> m.lot(k, what));
        all.addPairs(Math.min(600, probe.count(3)) + 1, 5, (m, k, what) -> m.line(k, what));
        return all;
    }

    /** How long the tape is, and what the text on it does. */
    private static List<ToIntFunction<DepotMarch>> tape() {
        Questions all = new Questions();
        all.addPairs(1, 1, (m, k, what) -> m.fault(what));
        all.add(m -> m.feed(BLANKS, BLANKS, BLANKS, BLANKS, BLANKS));
        all.addPairs(1, 30, (m, k, what) -> m.end(500 - what));
        all.add(m -> m.orders(0));
        all.addPairs(1, 1, (m, k, what) -> m.fault(what));
        all.addAll(daysToCome());
        return all;
    }

    private static List<ToIntFunction<DepotMarch>> storms() {
        Questions all = new Questions();
        all.addPairs(1, 399, (m, k, day) -> number(m.storm(day, true)));
        return all;
    }

    private static List<ToIntFunction<DepotMarch>> images() {
        Questions all = new Questions();
        for (int image = 0; image < 3; image++) {
            int k = image;
            all.add(m -> number(m.again(k)));
            all.addPairs(1, 8, (m, none, what) -> m.count(what));
            all.addPairs(2, 9, (m, party, what) -> m.tell(party, what));
            all.add(m -> m.days(3));
            all.addPairs(2, 9, (m, party, what) -> m.tell(party, what));
        }
        return all;
    }

    private static List<ToIntFunction<DepotMarch>> daysToCome() {
        Questions all = new Questions();
        for (int i = 0; i < 12; i++) {
            all.add(m -> m.days(1));
            all.addPairs(6, 0, (m, party, none) -> m.tell(party, 2));
            all.addPairs(6, 0, (m, party, none) -> m.tell(party, 3));
            all.addPairs(6, 0, (m, party, none) -> m.tell(party, 9));
            all.add(m -> m.camp(0, 0));
            all.add(m -> m.count(3));
        }
        return all;
    }
}
