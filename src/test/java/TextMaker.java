import java.util.Random;

/** Makes TEXTS by draws of a seeded source, whole ones and broken ones. */
final class TextMaker {
    private final Random random;

    TextMaker(Random random) {
        this.random = random;
    }

    String make(String names) {
        StringBuilder text = new StringBuilder();
        grow(text, names, 0, 4);
        int kind = random.nextInt(4);
        if (kind == 0) {
            breakUp(text, names);
        } else if (kind == 1 && text.length() > 0) {
            text.setLength(random.nextInt(text.length()));
        }
        if (text.length() > 50) {
            text.setLength(50);
        }
        return text.toString();
    }

    private void grow(StringBuilder text, String names, int open, int more) {
        int operands = 1 + random.nextInt(more + 1);
        for (int i = 0; i < operands; i++) {
            if (i > 0) {
                text.append("|&<=>+-*/%".charAt(random.nextInt(10)));
            }
            operand(text, names, open, more);
        }
    }

    private void operand(StringBuilder text, String names, int open, int more) {
        int inside = open;
        while (inside < 6 && random.nextInt(4) == 0) {
            text.append('!');
            inside++;
        }
        int kind = random.nextInt(5);
        if (kind == 0 && inside < 6) {
            text.append('(');
            grow(text, names, inside + 1, Math.max(0, more - 2));
            text.append(')');
        } else if (kind < 3) {
            text.append(names.charAt(random.nextInt(names.length())));
        } else {
            int digits = 1 + random.nextInt(random.nextInt(8) == 0 ? 5 : 3);
            for (int i = 0; i < digits; i++) {
                text.append((char) ('0' + random.nextInt(10)));
            }
        }
    }

    private void breakUp(StringBuilder text, String names) {
        String signs = "|&<=>+-*/%!()09 ,~xX" + names + (char) 0 + (char) 255 + (char) 200;
        for (int i = 0; i < 2; i++) {
            int at = random.nextInt(text.length() + 1);
            char sign = signs.charAt(random.nextInt(signs.length()));
            if (at < text.length() && random.nextBoolean()) {
                text.setCharAt(at, sign);
            } else {
                text.insert(at, sign);
            }
        }
    }
}
