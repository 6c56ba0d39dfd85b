import java.util.Random;

/** Random texts of the three sorts, now and then with a byte that is wrong. */
final class Texts {
    private final Random random;
    private StringBuilder out = new StringBuilder();

    Texts(Random random) {
        this.random = random;
    }

    String any(int sort) {
        out = new StringBuilder();
        if (sort == 0) {
            seaport();
        } else if (sort == 1) {
            law();
        } else {
            calendar();
        }
        if (random.nextInt(6) == 0) {
            spoil();
        }
        if (out.length() > 240) {
            out.setLength(240);
        }
        return out.toString();
    }

    private void spoil() {
        String signs = "skpdtfvnhobyi:;?()[]!&|=<>+-*/0123456789 eucr\u00e9x";
        for (int i = random.nextInt(3); i >= 0; i--) {
            int at = random.nextInt(out.length() + 1);
            char sign = signs.charAt(random.nextInt(signs.length()));
            switch (random.nextInt(4)) {
                case 0 -> out.insert(at, sign);
                case 1 -> out.setLength(at);
                case 2 -> out.deleteCharAt(Math.max(0, Math.min(at, out.length() - 1)));
                default -> out.setCharAt(Math.max(0, Math.min(at, out.length() - 1)), sign);
            }
            if (out.length() == 0) {
                return;
            }
        }
    }

    private void put(Object sign) {
        if (random.nextInt(12) == 0) {
            out.append(' ');
        }
        out.append(sign);
    }

    private int upTo(int most) {
        return random.nextInt(most + 1);
    }

    private void item(char letter, int least, int most) {
        if (random.nextInt(3) > 0) {
            put(letter);
            int value = least + random.nextInt(most - least + 1);
            put(value < 10 && random.nextInt(8) == 0 ? "0" + value : "" + value);
        }
    }

    private void seaport() {
        int kinds = 1 + random.nextInt(6);
        int persons = 2 + random.nextInt(5);
        if (random.nextInt(4) > 0) {
            put('s');
            item('d', 2, random.nextInt(3) == 0 ? 30 : 8);
            item('t', 0, 99);
            item('f', 0, 9);
            out.append(';');
        }
        for (int i = 0; i < kinds; i++) {
            put('k');
            item('n', 0, random.nextInt(4) == 0 ? 30 : 9);
            item('v', 0, 9);
            put(';');
        }
        for (int i = 0; i < persons; i++) {
            put('p');
            item('h', 0, kinds - 1);
            item('o', 0, random.nextInt(4) == 0 ? 9 : 4);
            if (random.nextInt(5) == 0) {
                item('b', 0, 1);
            }
            if (i < persons - 1) {
                put(';');
            }
        }
    }

    private void law() {
        int clauses = 1 + random.nextInt(3);
        for (int i = 0; i < clauses; i++) {
            if (i > 0) {
                put(';');
            }
            put('y');
            put(':');
            if (random.nextInt(3) > 0) {
                condition(random.nextInt(4) == 0 ? 7 : 3);
                put('?');
            }
            sum(random.nextInt(4) == 0 ? 7 : 2);
        }
    }

    private void condition(int depth) {
        unit(depth);
        while (random.nextInt(3) == 0) {
            put("&|".charAt(random.nextInt(2)));
            unit(depth);
        }
    }

    private void unit(int depth) {
        int choice = random.nextInt(5);
        if (choice == 0 && depth > 0) {
            put('!');
            unit(depth - 1);
        } else if (choice == 1 && depth > 0) {
            put('(');
            condition(depth - 1);
            put(')');
        } else {
            sum(depth > 1 ? 1 : 0);
            put("=<>".charAt(random.nextInt(3)));
            sum(depth > 1 ? 1 : 0);
        }
    }

    private void sum(int depth) {
        atom(depth);
        while (random.nextInt(2) == 0) {
            put("+-*/".charAt(random.nextInt(4)));
            atom(depth);
        }
    }

    private void atom(int depth) {
        int choice = random.nextInt(6);
        if (choice == 0 && depth > 0) {
            put('[');
            sum(depth - 1);
            put(']');
        } else if (choice < 3) {
            put(random.nextInt(6) == 0 ? upTo(9999) : upTo(9));
        } else {
            put("idfuyr".charAt(random.nextInt(6)));
        }
    }

    private void calendar() {
        int steps = 1 + random.nextInt(random.nextInt(4) == 0 ? 21 : 8);
        for (int i = 0; i < steps; i++) {
            if (i > 0) {
                put(';');
            }
            char sign = "ddddhbfec".charAt(random.nextInt(9));
            put(sign);
            int digits = sign == 'h' ? 2 : sign == 'd' || sign == 'e' ? 0 : 1;
            for (int j = 0; j < digits; j++) {
                put(random.nextInt(5) == 0 ? upTo(9) : upTo(3));
            }
        }
    }
}
