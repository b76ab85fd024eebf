import java.util.Random;

/** Makes texts of laws, most of them without a fault, some with one sign wrong. */
final class RandomLaw {
    private final Random random;
    private final StringBuilder text = new StringBuilder();

    RandomLaw(Random random) {
        this.random = random;
    }

    String text() {
        int clauses = random.nextInt(20) == 0 ? 16 : 1 + random.nextInt(8);
        for (int k = 0; k < clauses && text.length() < 190; k++) {
            if (k > 0) {
                text.append(';');
            }
            clause(clauses > 8);
        }
        if (random.nextInt(3) == 0) {
            spoil();
        }
        return text.toString();
    }

    private void clause(boolean small) {
        char letter = "fpdtb".charAt(random.nextInt(5));
        text.append(letter);
        if (small) {
            text.append(letter == 'b' ? "" : "1").append("(k=").append(random.nextInt(9)).append(')');
            return;
        }
        if (letter != 'b') {
            if (random.nextInt(3) == 0) {
                expression(0);
            } else {
                text.append(random.nextInt(letter == 'p' ? 120 : 12));
            }
        }
        text.append('(');
        condition(1);
        text.append(')');
    }

    private void condition(int open) {
        int many = random.nextInt(3) == 0 ? 2 : 1;
        for (int k = 0; k < many; k++) {
            if (k > 0) {
                text.append(random.nextBoolean() ? '|' : '&');
            }
            piece(open);
        }
    }

    private void piece(int open) {
        int kind = random.nextInt(open > 6 ? 40 : 6);
        if (kind == 0) {
            text.append('!');
            piece(open + 1);
        } else if (kind == 1) {
            text.append('(');
            condition(open + 1);
            text.append(')');
        } else {
            expression(open);
            text.append("<>=".charAt(random.nextInt(3)));
            expression(open);
        }
    }

    private void expression(int open) {
        factor(open);
        while (random.nextInt(3) == 0) {
            text.append("+-*/%/%".charAt(random.nextInt(7)));
            factor(open);
        }
    }

    private void factor(int open) {
        int kind = random.nextInt(open > 6 ? 60 : 10);
        if (kind == 0) {
            text.append('[');
            expression(open + 1);
            text.append(']');
        } else if (kind < 4) {
            int most = random.nextInt(8) == 0 ? 130000 : random.nextInt(3) == 0 ? 3 : 30;
            text.append(random.nextInt(most));
        } else {
            text.append("krsoamngcv".charAt(random.nextInt(10)));
        }
    }

    private void spoil() {
        int at = random.nextInt(text.length());
        int kind = random.nextInt(4);
        if (kind == 0) {
            text.deleteCharAt(at);
        } else if (kind == 1) {
            text.setCharAt(at, any());
        } else if (kind == 2) {
            text.insert(at, any());
        } else {
            text.setLength(Math.max(1, at));
        }
        if (text.length() == 0) {
            text.append('f');
        }
    }

    private char any() {
        return random.nextInt(9) == 0 ? (char) random.nextInt(256)
                : "krsoamngcvfpdtb()[]!;|&<>=+-*/%0123456789 ".charAt(random.nextInt(42));
    }
}
