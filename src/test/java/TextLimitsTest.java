/** The limits that Terms 2 names for texts and their numbers, a method for each sentence, which stands above it. */
public final class TextLimitsTest {
    private static final Due DUE = new Due("TextLimitsTest");
    private static final int MIN = Integer.MIN_VALUE;
    private static final int MAX = Integer.MAX_VALUE;
    /** Texts of E for the greatest and the least number. */
    private static final String GREATEST = "(32767*65536+65535)";
    private static final String LEAST = "(32768*65536)";

    public static void main(String[] args) {
        aTapeThatIsFull();
        blanksAndBytesThatAreNone();
        wordsAsLongAsTheyGo();
        wordsThatAreNoTokens();
        numbersOfFiveDigits();
        signsOfOneByte();
        eachFormOfS();
        eachFormOfE();
        oneComparisonInAnE();
        oneMinusInAU();
        eightOpenE();
        sixOpenBlocks();
        theEndsPlace();
        theSixtyFirstS();
        faultOneGoesBeforeFaultTwo();
        numbersGoAround();
        comparisonsGiveOneOrZero();
        divisionCuts();
        divisionByZero();
        roomAndFood();
        lettersAndTheirNumbers();
        namesFromAToZ();
        DUE.finish();
    }

    private static void good(String text, int statements) {
        DepotMarch march = new DepotMarch();
        march.party(1, 10);
        DUE.is("orders of '" + text + "'", Due.orders(march, 0, text), statements);
        DUE.is("fault of '" + text + "'", march.fault(0), 0);
        DUE.is("place in '" + text + "'", march.fault(1), -1);
    }

    private static void bad(String text, int fault, int place) {
        DepotMarch march = new DepotMarch();
        march.party(1, 10);
        DUE.is("orders of '" + text + "'", Due.orders(march, 0, text), -1);
        DUE.is("fault of '" + text + "'", march.fault(0), fault);
        DUE.is("place in '" + text + "'", march.fault(1), place);
    }

    private static void bad(String text, int place) {
        bad(text, 1, place);
    }

    private static void value(String text, int want) {
        DepotMarch march = new DepotMarch();
        march.party(1, 10);
        DUE.is("orders with '" + text + "'", Due.orders(march, 0, "z=" + text + ";"), 1);
        march.days(1);
        DUE.is(text, march.tell(0, 35), want);
    }

    /** THE TAPE has at most 500 bytes. */
    private static void aTapeThatIsFull() {
        good(" ".repeat(500), 0);
        good(" ".repeat(495) + "rest;", 1);
        good("rest;" + "\n".repeat(495), 1);
        bad(" ".repeat(496) + "rest", 500);
        bad(" ".repeat(499) + "#", 499);
        bad(" ".repeat(499) + "a", 500);
        bad("a".repeat(500), 0);
        bad(" a=" + "1".repeat(497), 3);
        value("1" + "+1".repeat(248), 249);
        value("1" + "-1".repeat(248), -247);
        bad("z=1" + "+1".repeat(248) + "+", 500);
        bad("z=" + "(1)+".repeat(124) + "1=", 500);
        good("z=" + "(1)+".repeat(124) + "1;", 1);
    }

    /** Blanks (10, 32) between; no other byte is a blank, and none but the letters, digits and signs is in a token. */
    private static void blanksAndBytesThatAreNone() {
        String signs = "{}();=<>+-*/%";
        for (int b = 0; b < 256; b++) {
            String one = String.valueOf((char) b);
            boolean letter = b >= 'a' && b <= 'z';
            if (b == 10 || b == 32) {
                good(one, 0);
                good("march" + one + ";", 1);
                bad("mar" + one + "ch;", 0);
                bad("z=1" + one + "2;", 4);
            } else {
                bad(one, letter ? 1 : 0);
                bad("march" + one + ";", letter ? 0 : b == ';' ? 6 : 5);
            }
            if (!letter && signs.indexOf(b) < 0 && (b < '0' || b > '9') && b != 10 && b != 32) {
                bad("rest;" + one, 5);
                bad("z=1" + one + ";", 3);
                bad("z=" + one + "1;", 2);
                bad("r" + one + "est;", 1);
            }
        }
    }

    /** TOKENS, as long as they go. */
    private static void wordsAsLongAsTheyGo() {
        bad("marchback;", 0);
        bad("restrest;", 0);
        bad("take1;rest", 10);
        good("take1;rest;", 2);
        good("take a;", 1);
        bad("takea;", 0);
        bad("if1{}else", 9);
        good("if1{}else{}", 1);
        good("while0{}", 1);
        bad("whilea{}", 0);
        bad("if a{}elseif a{}", 6);
        bad("z=1a;", 3);
        bad("z=a1;", 3);
        bad("z=aa;", 2);
        bad("z=foodfood;", 2);
        good("z=food\n;", 1);
    }

    /** A word of one letter is a NAME; else it is one of those below, or no token. */
    private static void wordsThatAreNoTokens() {
        String[] words = {"march", "back", "rest", "stop", "take", "lay", "leave", "if", "else", "while", "food",
            "store", "room", "camp", "day", "men", "storm", "letter", "hunger"};
        for (String word : words) {
            bad("rest; " + word + "s;", 6);
            bad("rest; x" + word + ";", 6);
            bad("rest; " + word + word + ";", 6);
            bad("z=" + word + "s;", 2);
            if (word.length() > 2) {
                bad("rest; " + word.substring(0, word.length() - 1) + ";", 6);
                bad("z= " + word.substring(1) + ";", 3);
            }
            bad(word.toUpperCase() + ";", 0);
            bad(word + "=1;", beginsAnS(word) ? word.length() : 0);
        }
        for (char name = 'a'; name <= 'z'; name++) {
            good(name + "=" + name + ";", 1);
            bad(name + ";", 1);
            bad(Character.toUpperCase(name) + "=1;", 0);
        }
    }

    private static boolean beginsAnS(String word) {
        return "march back rest stop take lay leave if while".contains(word);
    }

    /** NUMBERS: 1 to 5 digits; a longer row of digits is no token. */
    private static void numbersOfFiveDigits() {
        value("0", 0);
        value("9", 9);
        value("10000", 10000);
        value("99999", 99999);
        value("00007", 7);
        value("00000", 0);
        bad("z=100000;", 2);
        bad("z=000000;", 2);
        bad("z=000001;", 2);
        bad("z=1+999999;", 4);
        bad("z=1 +99999999999;", 5);
        bad("z=99999 9;", 8);
        bad("123456", 0);
        bad("12345", 0);
    }

    /** Signs, one byte each. */
    private static void signsOfOneByte() {
        bad("z==1;", 2);
        bad("z=1==1;", 4);
        bad("z=1<=1;", 4);
        bad("z=1>=1;", 4);
        bad("z=1<>1;", 4);
        bad("z=1**1;", 4);
        bad("z=1//1;", 4);
        bad("z=1++1;", 4);
        bad("z=1%%1;", 4);
        good("z=1--1;", 1);
        bad("z=1-+1;", 4);
        bad("z=1!1;", 3);
        bad("z=1&1;", 3);
        bad("z=1,1;", 3);
        bad("z=[1];", 2);
    }

    /** TEXT: {S}, with each form of S and BLOCK, and what may not stand in its places. */
    private static void eachFormOfS() {
        String[] bare = {"march", "back", "rest", "stop"};
        for (String word : bare) {
            int n = word.length();
            good(word + ";", 1);
            bad(word, n);
            bad(word + "}", n);
            bad(word + " 1;", n + 1);
            bad(word + ";;", n + 1);
            bad(word + " " + word + ";", n + 1);
        }
        String[] valued = {"take", "lay", "leave", "z="};
        for (String word : valued) {
            int n = word.length();
            good(word + " 1;", 1);
            bad(word + ";", n);
            bad(word, n);
            bad(word + " 1", n + 2);
            bad(word + " 1}", n + 2);
            bad(word + " rest;", n + 1);
        }
        String[] asking = {"if", "while"};
        for (String word : asking) {
            int n = word.length();
            good(word + " 1{}", 1);
            good(word + " 1{rest;}", 2);
            bad(word + " {}", n + 1);
            bad(word + " rest;", n + 1);
            bad(word + ";", n);
            bad(word, n);
            bad(word + " " + word + " 1{}", n + 1);
            bad(word + " 1;", n + 2);
            bad(word + " 1", n + 2);
            bad(word + " 1 rest;", n + 3);
            bad(word + " 1{", n + 3);
            bad(word + " 1{rest;", n + 8);
            bad(word + " 1{}}", n + 4);
            bad(word + " 1{};", n + 4);
            bad(word + " 1{{}}", n + 3);
            bad(word + " 1)", n + 2);
        }
        good("if 1{}else{}", 1);
        bad("if 1{}else", 10);
        bad("if 1{}else;", 10);
        bad("if 1{}else if 1{}", 11);
        bad("if 1{}else{}else{}", 12);
        bad("while 1{}else{}", 9);
        bad("if 1{else{}}", 5);
        bad("else{}", 0);
    }

    /** E, P, T, U and A: each value that may stand, and what may not. */
    private static void eachFormOfE() {
        String[] values = {"1", "a", "(1)", "food", "store", "room", "camp", "day", "men", "storm", "letter", "hunger"};
        String[] joints = {"=", "<", ">", "+", "-", "*", "/", "%"};
        for (String one : values) {
            good("z=" + one + ";", 1);
            good("z=-" + one + ";", 1);
            good("z=(" + one + ");", 1);
            bad("z=" + one + " 1;", 3 + one.length());
            bad("z=" + one + ");", 2 + one.length());
            for (String joint : joints) {
                good("z=" + one + joint + one + ";", 1);
                bad("z=" + one + joint + ";", 3 + one.length());
                bad("z=" + one + joint, 3 + one.length());
            }
        }
        String[] never = {"march", "back", "rest", "stop", "take", "lay", "leave", "if", "else", "while", "{", "}", ")",
            ";", "=", "<", ">", "+", "*", "/", "%"};
        for (String one : never) {
            bad("z=" + one + ";", 2);
            bad("z=-" + one + ";", 3);
            bad("z=(" + one + ");", 3);
            bad("z=1+" + one + ";", 4);
        }
    }

    /** E: P [('=' | '<' | '>') P]. */
    private static void oneComparisonInAnE() {
        String[] joints = {"=", "<", ">"};
        for (String one : joints) {
            for (String other : joints) {
                bad("z=1" + one + "2" + other + "3;", 5);
                bad("z=(1" + one + "2" + other + "3);", 6);
                good("z=(1" + one + "2)" + other + "3;", 1);
                good("z=1" + one + "(2" + other + "3);", 1);
                bad("z=1+2*3" + one + "4-5" + other + "6;", 11);
            }
        }
    }

    /** U: ['-'] A. */
    private static void oneMinusInAU() {
        good("z=-1;", 1);
        bad("z=--1;", 3);
        bad("z=- -1;", 4);
        good("z=-(-1);", 1);
        good("z=1--1;", 1);
        bad("z=1---1;", 5);
        good("z=1*-1;", 1);
        bad("z=1*--1;", 5);
    }

    /** At most 8 E may be open at one place (a further one can't stand there: 1 at its first token). */
    private static void eightOpenE() {
        String[] heads = {"z=", "take ", "lay ", "leave "};
        for (String head : heads) {
            int n = head.length();
            good(head + "(".repeat(7) + "1" + ")".repeat(7) + ";", 1);
            bad(head + "(".repeat(8) + "1" + ")".repeat(8) + ";", n + 8);
            bad(head + "(".repeat(8) + " 1" + ")".repeat(8) + ";", n + 9);
            bad(head + "(".repeat(9) + "1" + ")".repeat(9) + ";", n + 8);
        }
        good("if " + "(".repeat(7) + "1" + ")".repeat(7) + "{}", 1);
        bad("if " + "(".repeat(8) + "1" + ")".repeat(8) + "{}", 11);
        good("while " + "(".repeat(7) + "1" + ")".repeat(7) + "{}", 1);
        bad("while " + "(".repeat(8) + "1" + ")".repeat(8) + "{}", 14);
        bad("z=" + "(".repeat(8) + "food" + ")".repeat(8) + ";", 10);
        bad("z=" + "(".repeat(8) + "-1" + ")".repeat(8) + ";", 10);
        bad("z=" + "(".repeat(8), 10);
        // those that were open before, and are shut, do not count
        String seven = "(".repeat(7) + "1" + ")".repeat(7);
        good("z=" + seven + "+" + seven + "=" + seven + ";y=" + seven + ";", 2);
        bad("z=" + seven + "+(" + seven + ");", 2 + 15 + 1 + 8);
        // an E is shut before its BLOCK is open
        good("if " + seven + "{while " + seven + "{z=" + seven + ";}}", 3);
        value("-(".repeat(7) + "5" + ")".repeat(7), -5);
        // each E has three values waiting
        value("3=1+2*(".repeat(7) + "7=1+2*3" + ")".repeat(7), 1);
        value("3=1+2*(".repeat(7) + "7=1+2*4" + ")".repeat(7), 0);
        value("1+(2*(3-(4+(5*(6-(7+(8)))))))", 1 + 2 * (3 - (4 + 5 * (6 - (7 + 8)))));
    }

    /** At most 6 BLOCKS may be open at one place (a further one can't stand there: 1 at its first token). */
    private static void sixOpenBlocks() {
        good("if 1{".repeat(6) + "rest;" + "}".repeat(6), 7);
        bad("if 1{".repeat(7) + "rest;" + "}".repeat(7), 6 * 5 + 4);
        bad("if 1{".repeat(6) + "if 1 {}" + "}".repeat(6), 6 * 5 + 5);
        good("while 1{".repeat(6) + "rest;" + "}".repeat(6), 7);
        bad("while 1{".repeat(7) + "rest;" + "}".repeat(7), 6 * 8 + 7);
        String elses = "if 1{}else{";
        good(elses.repeat(6) + "rest;" + "}".repeat(6), 7);
        // the block of the seventh if comes before that of its else
        bad(elses.repeat(7) + "rest;" + "}".repeat(7), 6 * 11 + 4);
        good(elses.repeat(5) + "if 1{rest;}else{rest;}" + "}".repeat(5), 8);
        bad(elses.repeat(5) + "if 1{rest;}else{if 1{}}" + "}".repeat(5), 5 * 11 + 20);
        // those that are shut do not count
        good("if 1{}".repeat(7), 7);
        good("if 1{".repeat(5) + "if 1{}while 0{}if 1{}else{}" + "}".repeat(5), 8);
        bad("if 1{".repeat(6), 30);
        bad("if 1{".repeat(6) + "}".repeat(5), 35);
        bad("if 1{".repeat(6) + "}".repeat(7), 36);
        // no text goes on with the S itself, but it is the BLOCK that can't stand there
        bad("if 1{".repeat(6) + "while", 35);
        bad("if 1{".repeat(6) + "while 1", 37);
    }

    /** FAULTS, with their places (a token's first byte; the end's). */
    private static void theEndsPlace() {
        bad("rest", 4);
        bad("rest ", 5);
        bad("rest\n\n  ", 8);
        bad("rest;a", 6);
        bad("rest;a  ", 8);
        bad("if 1{", 5);
        bad("  #", 2);
        bad("rest  back;", 6);
        bad("rest;\n\n back back;", 13);
    }

    /** 2 the 61st S, at its first token. */
    private static void theSixtyFirstS() {
        good("a=1;".repeat(59), 59);
        good("a=1;".repeat(60), 60);
        bad("a=1;".repeat(61), 2, 240);
        bad("a=1;".repeat(60) + "\n rest;", 2, 242);
        bad("a=1;".repeat(62), 2, 240);
        bad("a=1;".repeat(125), 2, 240);
        good("rest;".repeat(60), 60);
        bad("rest;".repeat(61), 2, 300);
        good("if 1{}".repeat(60), 60);
        bad("if 1{}".repeat(61), 2, 360);
        good("while 1{" + "a=1;".repeat(59) + "}", 60);
        bad("while 1{" + "a=1;".repeat(60) + "}", 2, 8 + 59 * 4);
        good("if 1{" + "a=1;".repeat(20) + "}else{" + "a=1;".repeat(39) + "}", 60);
        bad("if 1{" + "a=1;".repeat(20) + "}else{" + "a=1;".repeat(40) + "}", 2, 5 + 80 + 6 + 39 * 4);
        bad("if 1{" + "a=1;".repeat(59) + "}b=1;", 2, 5 + 59 * 4 + 1);
        bad("a=1;".repeat(59) + "if 1{rest;}", 2, 59 * 4 + 5);
        bad("a=1;".repeat(60) + "if 1{rest;}", 2, 240);
        bad("a=1;".repeat(60) + "stop;", 2, 240);
    }

    /** If there is none (of FAULT 1): 2. */
    private static void faultOneGoesBeforeFaultTwo() {
        bad("a=1;".repeat(61) + "#", 1, 244);
        bad("a=1;".repeat(60) + "rest", 1, 244);
        bad("a=1;".repeat(60) + ";", 1, 240);
        bad("a=1;".repeat(124) + "abcd", 1, 496);
        bad("if 1{" + "a=1;".repeat(70), 1, 285);
        bad("#" + "a=1;".repeat(61), 1, 0);
    }

    /** Numbers have 32 bits and go around. */
    private static void numbersGoAround() {
        value(GREATEST, MAX);
        value(LEAST, MIN);
        value("-" + LEAST, MIN);
        value("-" + GREATEST, -MAX);
        value("-" + GREATEST + "-1", MIN);
        value("-" + GREATEST + "-2", MAX);
        value(GREATEST + "+1", MIN);
        value(GREATEST + "+" + GREATEST, -2);
        value(LEAST + "-1", MAX);
        value(LEAST + "+" + LEAST, 0);
        value(LEAST + "-" + GREATEST, 1);
        value("0-" + LEAST, MIN);
        value(LEAST + "*-1", MIN);
        value(LEAST + "*2", 0);
        value(GREATEST + "*2", -2);
        value(GREATEST + "*" + GREATEST, 1);
        value("99999*99999", 99999 * 99999);
        value("65536*65536", 0);
        value("46341*46341", 46341 * 46341);
        value("46340*46340", 46340 * 46340);
    }

    /** = < > give 1 or 0, of the greatest and the least number, too. */
    private static void comparisonsGiveOneOrZero() {
        value("1=1", 1);
        value("1=2", 0);
        value("1<2", 1);
        value("2<2", 0);
        value("3<2", 0);
        value("2>1", 1);
        value("2>2", 0);
        value("1>2", 0);
        value("-1<1", 1);
        value("-1>1", 0);
        value(LEAST + "<" + GREATEST, 1);
        value(LEAST + ">" + GREATEST, 0);
        value(GREATEST + ">" + LEAST, 1);
        value(GREATEST + "<" + LEAST, 0);
        value(LEAST + "=" + GREATEST, 0);
        value(LEAST + "=-" + LEAST, 1);
        value(LEAST + "<0", 1);
        value(LEAST + "<1", 1);
        value(GREATEST + ">-1", 1);
        value("(1=1)+(2=2)+(1<0)", 2);
    }

    /** / cuts towards 0, % has the sign of the first. */
    private static void divisionCuts() {
        int[][] pairs = {{7, 2}, {-7, 2}, {7, -2}, {-7, -2}, {1, 3}, {-1, 3}, {1, -3}, {-1, -3}, {6, 3}, {-6, 3},
            {0, 5}, {0, -5}};
        for (int[] p : pairs) {
            String first = "(0" + (p[0] < 0 ? "" : "+") + p[0] + ")";
            String second = "(0" + (p[1] < 0 ? "" : "+") + p[1] + ")";
            value(first + "/" + second, p[0] / p[1]);
            value(first + "%" + second, p[0] % p[1]);
        }
        value(LEAST + "/-1", MIN);
        value(LEAST + "%-1", 0);
        value(LEAST + "/1", MIN);
        value(LEAST + "/" + LEAST, 1);
        value(GREATEST + "/" + LEAST, 0);
        value(GREATEST + "%" + LEAST, MAX);
        value(LEAST + "/" + GREATEST, -1);
        value(LEAST + "%" + GREATEST, -1);
        value("-1/2", 0);
        value("100/10/5", 2);
        value("100%60/7", 5);
        value("7/2*2", 6);
    }

    /** By 0 both give 0. */
    private static void divisionByZero() {
        String[] firsts = {"0", "1", "-1", "5", GREATEST, LEAST};
        for (String first : firsts) {
            value(first + "/0", 0);
            value(first + "%0", 0);
            value(first + "/(1-1)", 0);
            value(first + "%a", 0);
            value("3+" + first + "/0", 3);
            value(first + "/0/0", 0);
        }
    }

    /** food: rations that are carried; room: CARRY less food; store: in the STORE of its camp. */
    private static void roomAndFood() {
        DepotMarch march = new DepotMarch();
        march.party(1, 200);
        march.land(200);
        Due.orders(march, 0, "a=food;b=room;c=store;take 200;d=food;e=room;f=store;lay 1;g=food;h=room;i=store;"
                + "lay 199;j=food;k=room;l=store;");
        march.days(1);
        int[] want = {0, 200, 200, 200, 0, 0, 199, 1, 1, 0, 200, 200};
        for (int i = 0; i < want.length; i++) {
            DUE.is("name " + i, march.tell(0, 10 + i), want[i]);
        }
    }

    /** letter: the latest that was left at its camp, -1 if none was. */
    private static void lettersAndTheirNumbers() {
        DepotMarch march = new DepotMarch();
        march.party(1, 9);
        march.land(9);
        Due.orders(march, 0, "take 9;a=letter;leave 0;b=letter;leave " + GREATEST + ";c=letter;leave " + LEAST
                + ";d=letter;march;e=letter;leave -1;f=letter;leave 3;leave 4;g=letter;back;h=letter;");
        march.days(1);
        DUE.is("at camp 0", march.camp(0, 1), MIN);
        DUE.is("at camp 1", march.camp(1, 1), -1);
        march.days(2);
        int[] want = {-1, 0, MAX, MIN, -1, -1, 4, MIN};
        for (int i = 0; i < want.length; i++) {
            DUE.is("name " + i, march.tell(0, 10 + i), want[i]);
        }
        DUE.is("at camp 0", march.camp(0, 1), MIN);
        DUE.is("at camp 1", march.camp(1, 1), 4);
        DUE.is("at camp 2", march.camp(2, 1), -1);
    }

    /** 26 NAMES a .. z (0 at first). */
    private static void namesFromAToZ() {
        DepotMarch march = new DepotMarch();
        march.party(1, 9);
        march.party(1, 9);
        StringBuilder text = new StringBuilder();
        for (char name = 'a'; name <= 'z'; name++) {
            DUE.is("at first", march.tell(0, 10 + name - 'a'), 0);
            text.append(name).append('=').append(name - 'a' + 100).append('+').append(name).append(';');
        }
        DUE.is("orders", Due.orders(march, 0, text.toString()), 26);
        march.days(1);
        for (int i = 0; i < 26; i++) {
            DUE.is("name " + i, march.tell(0, 10 + i), 100 + i);
            DUE.is("another party's", march.tell(1, 10 + i), 0);
        }
        DUE.is("no more", march.tell(0, 36), -1);
    }
}
