/** Promises 1 to 3: a new object, feed, end. */
public final class TapeTest {
    private static final Due DUE = new Due("TapeTest");

    public static void main(String[] args) {
        newObject();
        feedCountsToItsBound();
        endCuts();
        bytesComeHighestFirst();
        DUE.finish();
    }

    private static void newObject() {
        DepotMarch march = new DepotMarch();
        DUE.is("NONE", DepotMarch.NONE, -1);
        for (int what = 0; what <= 8; what++) {
            DUE.is("count(" + what + ")", march.count(what), 0);
        }
        DUE.is("end(1)", march.end(1), -1);
        DUE.is("end(0)", march.end(0), 0);
        DUE.is("fault(0)", march.fault(0), 0);
        DUE.is("fault(1)", march.fault(1), -1);
        DUE.is("storm(0, false)", march.storm(0, false), false);
        DUE.is("storm(399, false)", march.storm(399, false), false);
        for (int k = 0; k < 3; k++) {
            DUE.is("again(" + k + ")", march.again(k), false);
        }
        for (int camp = 0; camp < 16; camp++) {
            DUE.is("camp 0", march.camp(camp, 0), 0);
            DUE.is("camp 1", march.camp(camp, 1), -1);
            DUE.is("camp 2", march.camp(camp, 2), 0);
            DUE.is("camp 3", march.camp(camp, 3), -1);
        }
        DUE.is("tell", march.tell(0, 0), -1);
        DUE.is("lot", march.lot(0, 0), -1);
        DUE.is("line", march.line(0, 0), -1);
    }

    private static void feedCountsToItsBound() {
        DepotMarch march = new DepotMarch();
        for (int n = 20; n <= 500; n += 20) {
            DUE.is("feed", march.feed(0, 0, 0, 0, 0), n);
        }
        DUE.is("feed over 500", march.feed(0, 0, 0, 0, 0), -1);
        DUE.is("end(500)", march.end(500), 500);
        DUE.is("end(481)", march.end(481), 481);
        DUE.is("feed to 501", march.feed(0, 0, 0, 0, 0), -1);
        DUE.is("end(481) again", march.end(481), 481);
        DUE.is("end(482)", march.end(482), -1);
        DUE.is("end(480)", march.end(480), 480);
        DUE.is("feed to 500", march.feed(0, 0, 0, 0, 0), 500);
    }

    private static void endCuts() {
        DepotMarch march = new DepotMarch();
        march.feed(1, 2, 3, 4, 5);
        DUE.is("end(-1)", march.end(-1), -1);
        DUE.is("end(21)", march.end(21), -1);
        DUE.is("end(MIN)", march.end(Integer.MIN_VALUE), -1);
        DUE.is("end(MAX)", march.end(Integer.MAX_VALUE), -1);
        DUE.is("end(20)", march.end(20), 20);
        DUE.is("end(7)", march.end(7), 7);
        DUE.is("end(8)", march.end(8), -1);
        DUE.is("feed", march.feed(1, 2, 3, 4, 5), 27);
        DUE.is("end(0)", march.end(0), 0);
    }

    private static void bytesComeHighestFirst() {
        DepotMarch march = new DepotMarch();
        march.party(1, 1);
        march.feed(0x613d6261, 0x636b3b20, 0x20202020, 0x20202020, 0x20202020);
        DUE.is("'a=back;': no text", march.orders(0), -1);
        DUE.is("its place", march.fault(1), 2);
        march.feed(0x6261636b, 0x3b613d31, 0x323b6d61, 0x7263683b, 0x72657374);
        march.feed(0x3bffffff, -1, -1, -1, -1);
        march.end(21);
        DUE.is("'back;a=12;march;rest;'", march.orders(0), 4);
        march.feed(0x80000000, 0, 0, 0, 0);
        DUE.is("byte 128", march.orders(0), -1);
        DUE.is("its place", march.fault(1), 0);
    }
}
