import java.util.ArrayDeque;
import java.util.HashSet;
import java.util.Set;

/** Promises 16 and 17: need and far; small NEEDS are sought by trying all ways too. */
public final class NeedTest {
    private static final Due DUE = new Due("NeedTest");

    public static void main(String[] args) {
        needs();
        byTryingAll();
        fars();
        wrong();
        DUE.finish();
    }

    private static void needs() {
        DepotMarch march = new DepotMarch();
        int[] carryThree = {0, 2, 6, 18, 54, 162};
        for (int camp = 0; camp < carryThree.length; camp++) {
            DUE.is("need(3, " + camp + ")", march.need(3, camp), carryThree[camp]);
        }
        DUE.is("need(3, 15)", march.need(3, 15), 9565938);
        int[] carryFour = {0, 2, 4, 8, 16, 32};
        for (int camp = 0; camp < carryFour.length; camp++) {
            DUE.is("need(4, " + camp + ")", march.need(4, camp), carryFour[camp]);
        }
        int[] carryFive = {0, 2, 4, 8, 14, 24};
        for (int camp = 0; camp < carryFive.length; camp++) {
            DUE.is("need(5, " + camp + ")", march.need(5, camp), carryFive[camp]);
        }
        for (int camp = 0; camp < 16; camp++) {
            DUE.is("need(200, " + camp + ")", march.need(200, camp), 2 * camp);
        }
    }

    private static void byTryingAll() {
        DepotMarch march = new DepotMarch();
        int[][] cases = {{3, 1}, {3, 2}, {4, 2}, {4, 3}, {5, 3}, {6, 3}, {5, 4}, {6, 4}};
        for (int[] c : cases) {
            int need = 0;
            while (!canReach(c[0], c[1], need)) {
                need++;
            }
            DUE.is("need(" + c[0] + ", " + c[1] + ")", march.need(c[0], c[1]), need);
        }
    }

    /** All states of a man (camp, rations carried, whether he was there) and of the stores that he can come to. */
    private static boolean canReach(int carry, int camp, int rations) {
        int[] start = new int[camp + 4];
        start[3] = rations;
        ArrayDeque<int[]> open = new ArrayDeque<>();
        Set<String> seen = new HashSet<>();
        open.add(start);
        seen.add(java.util.Arrays.toString(start));
        while (!open.isEmpty()) {
            int[] now = open.poll();
            int been = now[0] == camp ? 1 : now[2];
            if (now[0] == 0 && been == 1) {
                return true;
            }
            int there = now[1] + now[3 + now[0]];
            for (int with = 1; with <= Math.min(carry, there); with++) {
                for (int step = -1; step <= 1; step += 2) {
                    int[] next = now.clone();
                    next[3 + now[0]] = there - with;
                    next[0] = now[0] + step;
                    next[1] = with - 1;
                    next[2] = been;
                    if (next[0] >= 0 && next[0] <= camp && seen.add(java.util.Arrays.toString(next))) {
                        open.add(next);
                    }
                }
            }
        }
        return false;
    }

    private static void fars() {
        DepotMarch march = new DepotMarch();
        DUE.is("far(3, 0)", march.far(3, 0), 0);
        DUE.is("far(3, 1)", march.far(3, 1), 0);
        DUE.is("far(3, 2)", march.far(3, 2), 1);
        DUE.is("far(3, 5)", march.far(3, 5), 1);
        DUE.is("far(3, 6)", march.far(3, 6), 2);
        DUE.is("far(3, 1000000)", march.far(3, 1000000), 12);
        DUE.is("far(200, 29)", march.far(200, 29), 14);
        DUE.is("far(200, 30)", march.far(200, 30), 15);
        DUE.is("far(200, 1000000)", march.far(200, 1000000), 15);
        for (int carry = 3; carry <= 200; carry++) {
            for (int camp = 0; camp < 16; camp++) {
                int need = march.need(carry, camp);
                if (need <= 1000000) {
                    DUE.is("far(" + carry + ", " + need + ")", march.far(carry, need), camp);
                }
                if (need > 0 && need - 1 <= 1000000) {
                    DUE.is("far(" + carry + ", " + (need - 1) + ")", march.far(carry, need - 1), camp - 1);
                }
            }
        }
    }

    private static void wrong() {
        DepotMarch march = new DepotMarch();
        int[] carries = {2, 201, 0, -1, Integer.MAX_VALUE, Integer.MIN_VALUE};
        for (int carry : carries) {
            DUE.is("need(" + carry + ", 1)", march.need(carry, 1), -1);
            DUE.is("far(" + carry + ", 1)", march.far(carry, 1), -1);
        }
        int[] camps = {-1, 16, Integer.MAX_VALUE, Integer.MIN_VALUE};
        for (int camp : camps) {
            DUE.is("need(9, " + camp + ")", march.need(9, camp), -1);
        }
        int[] rations = {-1, 1000001, Integer.MAX_VALUE, Integer.MIN_VALUE};
        for (int many : rations) {
            DUE.is("far(9, " + many + ")", march.far(9, many), -1);
        }
    }
}
