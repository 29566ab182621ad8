import java.util.LinkedHashMap;
import java.util.LinkedHashSet;
import java.util.Map;
import java.util.Set;

/** Runs tests that are named by the sentence of the document that they are of, and counts what is not as due. */
final class Bounds {

    static final int MIN = Integer.MIN_VALUE;
    static final int MAX = Integer.MAX_VALUE;

    static final Class<?> BAD = IllegalArgumentException.class;
    static final Class<?> OUT = IndexOutOfBoundsException.class;
    static final Class<?> NOT_NOW = IllegalStateException.class;

    interface Test {
        void run(Used x);
    }

    interface Call {
        long ask(Used x);
    }

    interface CallWith {
        long ask(Used x, int value);
    }

    private final Map<String, Set<String>> told = new LinkedHashMap<>();
    private String section = "";
    private String sentence = "";
    private String name = "";
    private int testsOfSentence = 1;
    private int tests = 0;
    private int right = 0;
    private int wrong = 0;

    void section(String heading) {
        endSentence();
        section = heading;
        told.put(heading, new LinkedHashSet<>());
    }

    /** The tests told next are of this sentence. */
    void sentence(String words) {
        endSentence();
        sentence = words;
        testsOfSentence = 0;
        told.get(section).add(words);
    }

    /** A sentence that names no boundary. */
    void plain(String words) {
        endSentence();
        told.get(section).add(words);
    }

    private void endSentence() {
        if (testsOfSentence == 0) {
            fail("the sentence has no test");
        }
        testsOfSentence = 1;
    }

    void test(String name, Test test) {
        this.name = name;
        tests++;
        testsOfSentence++;
        try {
            test.run(new Used());
        } catch (RuntimeException | AssertionError e) {
            fail("stopped by " + e);
        }
    }

    private void fail(String what) {
        wrong++;
        System.out.println(section + ", \"" + sentence + "\", " + name + ": " + what);
    }

    void due(String call, long got, long want) {
        if (got == want) {
            right++;
        } else {
            fail(call + " answered " + got + ", due is " + want);
        }
    }

    /** The very class is asked for: what the machine throws is mostly of a class below the document's. */
    void dueThrow(String call, Used x, Call asked, Class<?> want) {
        String got;
        try {
            got = "answered " + asked.ask(x);
        } catch (RuntimeException e) {
            if (e.getClass() == want) {
                right++;
                return;
            }
            got = "threw " + e;
        }
        fail(call + " " + got + ", due is " + want.getSimpleName());
    }

    /** A test: the call answers that, in each of these worlds. */
    void allows(String call, long want, Call asked, World... worlds) {
        test(call + " is allowed", x -> {
            for (World world : worlds) {
                due(call + " on " + world.name, asked.ask(world.make()), want);
            }
        });
    }

    /** A test: the call throws that, in each of these worlds, and nothing has changed by it. */
    void refuses(String call, Class<?> want, Call asked, World... worlds) {
        test(call + " is refused, and nothing has changed", x -> {
            for (World world : worlds) {
                dueRefused(call, want, asked, world);
            }
        });
    }

    private void dueRefused(String call, Class<?> want, Call asked, World world) {
        for (int group = 0; group < Looks.GROUPS.size(); group++) {
            Used x = world.make();
            dueThrow(call + " on " + world.name, x, asked, want);
            String saw = Looks.at(x, Looks.GROUPS.get(group));
            if (saw.equals(world.seen().get(group))) {
                right++;
            } else {
                fail(call + " on " + world.name + " changed what is seen from\n  " + world.seen().get(group)
                        + "\nto\n  " + saw);
            }
        }
    }

    /** Tests: the first values beyond a range, and the least and greatest int, are refused in each of these worlds. */
    void refusesBeyond(int least, int greatest, String call, CallWith asked, Class<?> want, World... worlds) {
        for (int value : new int[] {least - 1, greatest + 1, MIN, MAX}) {
            refuses(String.format(call, value), want, x -> asked.ask(x, value), worlds);
        }
    }

    /** Whether all tests held and are of the document's sentences, each of which is tested or told to be plain. */
    boolean end(Map<String, Set<String>> document) {
        endSentence();
        name = "the document";
        Set<String> all = new LinkedHashSet<>(document.keySet());
        all.addAll(told.keySet());
        for (String heading : all) {
            section = heading;
            compare(told.getOrDefault(heading, Set.of()), document.getOrDefault(heading, Set.of()));
        }
        System.out.println("BoundaryTests: " + tests + " tests of " + told.size() + " sections, " + right
                + " answers as due, " + wrong + " not");
        return wrong == 0;
    }

    private void compare(Set<String> here, Set<String> there) {
        for (String words : here) {
            sentence = words;
            if (!there.contains(words)) {
                fail("the section has no such sentence");
            }
        }
        for (String words : there) {
            sentence = words;
            if (!here.contains(words)) {
                fail("nothing is told of the sentence");
            }
        }
    }
}
