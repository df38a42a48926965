import java.util.ArrayList;
import java.util.HashSet;
import java.util.List;
import java.util.Set;

/** Boundary cases: each is a test of its own, under the sentence of the document that names it. */
final class Edges {
    private static final int MOST_SHOWN = 6;

    private final Set<String> names = new HashSet<>();
    private final Set<String> parts = new HashSet<>();
    private final List<String> broken = new ArrayList<>();
    private String name = "";
    private int asked;
    private int wrong;

    /** The part is 'Promise 2' or 'Terms 1 CODES' and its like; the sentence is the document's. */
    void test(String part, String sentence, Runnable body) {
        name = part + ", '" + sentence + "'";
        asked = 0;
        wrong = 0;
        parts.add(part);
        try {
            body.run();
        } catch (RuntimeException e) {
            fail("threw " + e);
        }
        if (asked == 0) {
            fail("asks nothing");
        }
        if (!names.add(name)) {
            fail("has a name that another test has");
        }
        if (wrong > 0) {
            broken.add(name);
        }
    }

    void is(String what, long got, long due) {
        asked++;
        if (got != due) {
            fail(what + " answered " + got + ", due is " + due);
        }
    }

    void isTrue(String what, boolean holds) {
        asked++;
        if (!holds) {
            fail(what + " does not hold");
        }
    }

    private void fail(String what) {
        wrong++;
        if (wrong <= MOST_SHOWN) {
            System.out.println(name + ": " + what);
        }
    }

    void end(String[] partsDue) {
        for (String part : partsDue) {
            if (!parts.contains(part)) {
                broken.add(part + " has no test");
                System.out.println(part + " has no test");
            }
        }
        System.out.println("EdgesTest: " + names.size() + " boundary cases, " + broken.size() + " do not hold");
        if (!broken.isEmpty()) {
            System.exit(1);
        }
    }
}
