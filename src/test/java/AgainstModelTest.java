import java.util.Arrays;
import java.util.Random;

/** Runs of calls by lot, each made on the class and on the model, which must answer the same. */
public final class AgainstModelTest {
    private static final int RUNS = 400, CALLS = 512;

    // ---- what a lot calls

    private static final int[] ODD = {-1, -2, Integer.MIN_VALUE, Integer.MAX_VALUE, 6, 7, 41, 1000000};
    private static final int[] SHAPES = {0, 1, 2, 3, 4, 5, 6, 11, 21, 22, 31, 32, 33, 41, 42, 51, 111, 211, 221,
        222, 311, 321, 411, 1111, 2111, 2211, 3111, 11111, 21111, 12, 20, 43, 7, 111111, 202, 10};

    private static int among(Random lot, int least, int most) {
        if (lot.nextInt(40) == 0) {
            return ODD[lot.nextInt(ODD.length)];
        }
        return least + lot.nextInt(most - least + 1);
    }

    private static int shape(Random lot) {
        return lot.nextInt(30) == 0 ? among(lot, -5, 700) : SHAPES[lot.nextInt(SHAPES.length)];
    }

    private static int digits(Random lot, int n) {
        int digits = 0;
        int letters = lot.nextInt(25) == 0 ? 7 : lot.nextInt(7);
        for (int k = 0; k < letters; k++) {
            digits = digits * 10 + (lot.nextInt(60) == 0 ? lot.nextInt(10) : 1 + lot.nextInt(n));
        }
        return digits;
    }

    private static int content(Random lot, int n) {
        int[] often = new int[n];
        int letters = lot.nextInt(20) == 0 ? 7 : lot.nextInt(7);
        for (int k = 0; k < letters; k++) {
            often[lot.nextInt(n)]++;
        }
        int digits = lot.nextInt(40) == 0 ? 1 : 0;
        for (int k = 0; k < n; k++) {
            digits = digits * 10 + often[k];
        }
        return digits;
    }

    private static int[] arguments(Random lot, String name, int n) {
        int s = among(lot, 0, 5);
        int t = among(lot, 0, 3);
        int i = among(lot, 1, n - 1);
        return switch (name) {
            case "letters" -> new int[] {lot.nextInt(3) == 0 ? among(lot, 1, 6) : n};
            case "word" -> new int[] {s, digits(lot, n)};
            case "of" -> new int[] {s, among(lot, 0, 4)};
            case "row", "record" -> new int[] {s, among(lot, 0, 3)};
            case "taken" -> new int[] {s, among(lot, 0, 1)};
            case "signs" -> new int[] {s, i, among(lot, 0, 1)};
            case "act" -> new int[] {s, among(lot, 0, 5), i, among(lot, 0, 5)};
            case "highest" -> new int[] {s, among(lot, 0, 2)};
            case "all" -> new int[] {s, lot.nextBoolean() ? among(lot, -1, 9) : among(lot, 0, 420)};
            case "pair" -> new int[] {s, i, among(lot, 1, n - 1)};
            case "insert", "alike" -> new int[] {s, among(lot, 0, 5)};
            case "count" -> new int[] {shape(lot), content(lot, n)};
            case "together" -> new int[] {shape(lot), shape(lot), shape(lot)};
            case "worth" -> new int[] {among(lot, 1, n), among(lot, 0, lot.nextBoolean() ? 99 : 3)};
            case "worthOf" -> new int[] {shape(lot)};
            case "seed" -> new int[] {lot.nextInt()};
            case "lot" -> new int[] {s, among(lot, 0, 6)};
            case "sheet" -> new int[] {t, among(lot, -1, 2), among(lot, 0, 12)};
            case "put" -> new int[] {t, among(lot, 0, 9), lot.nextBoolean() ? among(lot, 1, n) : lot.nextInt()};
            case "item" -> new int[] {t, among(lot, 0, 2), among(lot, 0, 9)};
            case "copy" -> new int[] {t, among(lot, 0, 5), among(lot, 0, 3), among(lot, 0, 5), among(lot, 0, 6)};
            case "lay" -> new int[] {s, t, among(lot, 0, 6)};
            case "take" -> new int[] {t, among(lot, 0, 6), among(lot, 0, 6), s};
            case "many" -> new int[] {among(lot, 0, 3)};
            default -> new int[] {s};
        };
    }

    private static String tableauText(Random lot, Model m) {
        StringBuilder text = new StringBuilder();
        StringBuilder word = new StringBuilder();
        for (int k = lot.nextInt(7); k > 0; k--) {
            word.append(1 + lot.nextInt(m.n));
        }
        for (String row : Model.inserted(word.toString()).rows) {
            text.append(text.length() == 0 ? "" : "/").append(row);
        }
        return text.toString();
    }

    private static String actsText(Random lot, Model m) {
        String[] names = {"raise", "lower", "reflect", "top", "foot", "turn"};
        StringBuilder text = new StringBuilder();
        for (int k = lot.nextInt(6); k > 0; k--) {
            int act = lot.nextInt(6);
            text.append(names[act]).append(act == 5 ? "" : " " + (1 + lot.nextInt(m.n - 1))).append(';');
        }
        return text.toString();
    }

    /** Now and then a blank more, or a byte that is another one, is missing, or comes twice. */
    private static String spoiled(Random lot, String text) {
        StringBuilder other = new StringBuilder();
        int often = lot.nextInt(3) == 0 ? 12 : 1000;
        for (char c : text.toCharArray()) {
            if (lot.nextInt(8) == 0 && !Character.isLetter(c)) {
                other.append(' ');
            }
            switch (lot.nextInt(often)) {
                case 0 -> other.append("0123456/;[]aert\t\u00e9".charAt(lot.nextInt(17)));
                case 1 -> other.append(c).append(c);
                case 2 -> { }
                default -> other.append(c);
            }
        }
        return other.toString();
    }

    private static final class Run {
        final int number;
        final Random lot;
        final RaisedTableaux x = new RaisedTableaux();
        final Model m = new Model();
        int calls = 0;
        boolean right = true;

        Run(int number) {
            this.number = number;
            lot = new Random(number);
        }

        void call(String name, int[] a, long eight) {
            if (calls >= CALLS || !right) {
                return;
            }
            calls++;
            int got = Calls.answer(x, name, a, eight);
            int want = m.answer(name, a, eight);
            if (got != want) {
                right = false;
                System.out.println("run " + number + ", call " + calls + ": " + name + Arrays.toString(a)
                        + " answered " + got + ", due is " + want);
            }
        }

        void feedText(String text) {
            for (int at = 0; at < text.length(); at += 8) {
                int many = Math.min(8, text.length() - at);
                long eight = lot.nextLong();
                for (int k = 0; k < many; k++) {
                    eight = eight & ~(255L << 8 * k) | (long) text.charAt(at + k) << 8 * k;
                }
                call("feed", new int[] {many}, eight);
            }
        }

        /** Everything that can be asked of the slots, so that no wrong state stays unseen. */
        void askAll() {
            for (int s = 0; s < 6; s++) {
                call("of", new int[] {s, 0}, 0);
                call("of", new int[] {s, 2}, 0);
                call("row", new int[] {s, 0}, 0);
            }
        }

        void oneCall() {
            String name = Calls.NAMES[lot.nextInt(Calls.NAMES.length)];
            if (name.equals("letters") && lot.nextInt(4) != 0) {
                return;
            }
            if (name.equals("tableau") || name.equals("acts")) {
                String text = name.equals("acts") ? actsText(lot, m) : tableauText(lot, m);
                feedText(spoiled(lot, text));
            }
            if (name.equals("feed")) {
                call(name, new int[] {lot.nextInt(3) == 0 ? among(lot, 0, 9) : 1}, lot.nextLong());
                return;
            }
            call(name, arguments(lot, name, m.n), 0);
        }

        boolean isRight() {
            if (number % 4 != 3) {
                call("letters", new int[] {2 + number % 4 + number / 4 % 2}, 0);
            }
            while (calls < CALLS - 18 && right) {
                oneCall();
                if (lot.nextInt(60) == 0) {
                    askAll();
                }
            }
            askAll();
            return right;
        }
    }

    public static void main(String[] args) {
        int wrong = 0;
        for (int number = 0; number < RUNS; number++) {
            if (!new Run(number).isRight()) {
                wrong++;
            }
        }
        System.out.println(wrong == 0 ? "all " + RUNS + " runs are as due" : wrong + " runs are not as due");
        if (wrong != 0) {
            System.exit(1);
        }
    }
}
