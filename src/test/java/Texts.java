import java.util.Random;

/** Makes texts of orders by chance: sensible ones, any that the rules allow, and such with a slip in them. */
final class Texts {
    private static final String[] VALUES = {"food", "store", "room", "camp", "day", "men", "storm", "letter", "hunger"};
    private static final String[] SENSIBLE = {
        "take 30;while camp<3{march;}lay food-6;while camp>0{back;}",
        "while 1{take room;march;lay food/2;back;}",
        "take 200;while food>men*camp*2{march;}while camp{back;}stop;",
        "while 1{a=a+1;if storm{rest;}else{if letter>0{take letter;march;}else{leave a%7;take 3;march;back;}}}",
        "while 1{take 1;lay 1;}",
        "while 1{take a%5;a=a+1;lay a%3;}",
        "take 50;while 1{while camp<5{march;lay 3;take 1;}while camp>0{back;take 2;}take room;}",
        "while hunger<2{take 2;if room{rest;}march;}back;back;back;",
        "take 9;march;lay 4;leave day;march;if letter=0-1{lay 1;}back;take store;back;",
        "while 1{b=0;while b<day%9{b=b+1;take 1;lay 2;}rest;}",
        "take 90;while 1{lay 1;rest;}",
        "while 1{}",
        "",
    };
    private final Random random;

    Texts(Random random) {
        this.random = random;
    }

    String next() {
        int kind = random.nextInt(10);
        if (kind < 5) {
            return SENSIBLE[random.nextInt(SENSIBLE.length)];
        }
        StringBuilder text = new StringBuilder();
        int most = random.nextInt(8) == 0 ? 125 : 12;
        for (int i = random.nextInt(most); i >= 0 && text.length() < 460; i--) {
            statement(text, 0);
        }
        if (kind >= 8) {
            slip(text);
        }
        text.setLength(Math.min(500, text.length()));
        return text.toString();
    }

    private void slip(StringBuilder text) {
        String signs = "{}();=<>+-*/%a9 \n#A(mif";
        for (int i = random.nextInt(3); i >= 0 && text.length() > 0; i--) {
            int at = random.nextInt(text.length());
            char sign = signs.charAt(random.nextInt(signs.length()));
            switch (random.nextInt(4)) {
                case 0 -> text.deleteCharAt(at);
                case 1 -> text.insert(at, sign);
                case 2 -> text.setCharAt(at, sign);
                default -> text.setLength(at);
            }
        }
    }

    private void statement(StringBuilder text, int blocks) {
        if (random.nextInt(6) == 0) {
            text.append(random.nextBoolean() ? ' ' : '\n');
        }
        switch (random.nextInt(12)) {
            case 0, 1 -> text.append("march;");
            case 2 -> text.append("back;");
            case 3 -> text.append(random.nextInt(6) == 0 ? "stop;" : "rest;");
            case 4 -> valued(text, "take ");
            case 5 -> valued(text, "lay ");
            case 6 -> valued(text, "leave ");
            case 7, 8 -> block(text, "if ", blocks);
            case 9 -> block(text, "while ", blocks);
            default -> valued(text, (char) ('a' + random.nextInt(26)) + "=");
        }
    }

    private void valued(StringBuilder text, String word) {
        text.append(word);
        expression(text, 1);
        text.append(';');
    }

    private void block(StringBuilder text, String word, int blocks) {
        if (blocks > 5 && random.nextInt(10) != 0 || blocks > 7) {
            text.append("rest;");
            return;
        }
        text.append(word);
        expression(text, 1);
        list(text, blocks + 1);
        if (word.equals("if ") && random.nextBoolean()) {
            text.append("else");
            list(text, blocks + 1);
        }
    }

    private void list(StringBuilder text, int blocks) {
        text.append('{');
        for (int i = random.nextInt(4); i > 0; i--) {
            statement(text, blocks);
        }
        text.append('}');
    }

    private void expression(StringBuilder text, int open) {
        sum(text, open);
        if (random.nextInt(4) == 0) {
            text.append("=<>".charAt(random.nextInt(3)));
            sum(text, open);
        }
    }

    private void sum(StringBuilder text, int open) {
        operand(text, open);
        while (random.nextInt(3) == 0) {
            text.append("+-*/%".charAt(random.nextInt(5)));
            operand(text, open);
        }
    }

    private void operand(StringBuilder text, int open) {
        if (random.nextInt(8) == 0) {
            text.append('-');
        }
        int kind = random.nextInt(10);
        if (kind < 3) {
            text.append(random.nextInt(random.nextInt(5) == 0 ? 100000 : 10));
        } else if (kind < 6) {
            text.append((char) ('a' + random.nextInt(26)));
        } else if (kind < 8 || open > 8) {
            text.append(VALUES[random.nextInt(VALUES.length)]);
        } else {
            text.append('(');
            expression(text, open + 1);
            text.append(')');
        }
    }
}
