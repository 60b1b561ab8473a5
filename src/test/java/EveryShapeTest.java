import java.util.ArrayList;
import java.util.HashMap;
import java.util.List;
import java.util.Map;

/**
 * Every shape of every n: counts for every content, worths, and what every two are together; and every
 * number up to 99999 that tells no shape. The model tries all letters in all places once for a shape.
 */
public final class EveryShapeTest {
    private static final int GREATEST_NUMBER = 99999;
    private static final int[] WORTHS = {3, 7, 2, 5, 11};

    private static int wrong = 0;
    private static int asked = 0;

    private static void due(String what, int got, int want) {
        asked++;
        if (got != want) {
            wrong++;
            System.out.println(what + " answered " + got + ", due is " + want);
        }
    }

    private static Model model(int n) {
        Model m = new Model();
        m.letters(n);
        for (int letter = 1; letter <= n; letter++) {
            m.worth(letter, WORTHS[letter - 1]);
        }
        return m;
    }

    private static RaisedTableaux object(int n) {
        RaisedTableaux x = new RaisedTableaux();
        x.letters(n);
        for (int letter = 1; letter <= n; letter++) {
            x.worth(letter, WORTHS[letter - 1]);
        }
        return x;
    }

    private static List<Integer> shapes(Model m) {
        List<Integer> shapes = new ArrayList<>();
        RaisedTableaux x = object(m.n);
        for (int number = 0; number <= GREATEST_NUMBER; number++) {
            if (number % 500 == 0) {
                x = object(m.n);
            }
            if (m.shape(number) == null) {
                due("letters " + m.n + ", worthOf(" + number + ")", x.worthOf(number), RaisedTableaux.BAD);
            } else {
                shapes.add(number);
                due("letters " + m.n + ", worthOf(" + number + ")", x.worthOf(number), m.worthOf(number));
            }
        }
        return shapes;
    }

    private static List<String> contents(int n, int letters) {
        if (n == 0) {
            return List.of("");
        }
        List<String> contents = new ArrayList<>();
        for (int first = 0; first <= letters; first++) {
            for (String rest : contents(n - 1, letters - first)) {
                contents.add(first + rest);
            }
        }
        return contents;
    }

    private static void counts(Model m, int shape) {
        Map<String, Integer> found = new HashMap<>();
        for (Model.Thing tableau : m.tableaux(m.shape(shape))) {
            found.merge(m.contentOf(tableau.read()), 1, Integer::sum);
        }
        RaisedTableaux x = object(m.n);
        // 462 of five letters: with the calls that make the object fewer than 512
        for (String content : contents(m.n, 6)) {
            int got = x.count(shape, Integer.parseInt(content));
            due("letters " + m.n + ", count(" + shape + ", " + content + ")", got, found.getOrDefault(content, 0));
        }
    }

    private static void together(Model m, List<Integer> shapes) {
        for (int first : shapes) {
            for (int second : shapes) {
                RaisedTableaux x = object(m.n);
                for (int third : shapes) {
                    String call = "letters " + m.n + ", together(" + first + ", " + second + ", " + third + ")";
                    due(call, x.together(first, second, third), m.together(first, second, third));
                }
            }
        }
    }

    public static void main(String[] args) {
        for (int n = 2; n <= 5; n++) {
            Model m = model(n);
            List<Integer> shapes = shapes(m);
            for (int shape : shapes) {
                counts(m, shape);
            }
            together(m, shapes);
        }
        System.out.println(wrong == 0 ? "all " + asked + " answers are as due" : wrong + " are not as due");
        if (wrong != 0) {
            System.exit(1);
        }
    }
}
