import java.lang.reflect.InvocationTargetException;
import java.lang.reflect.Method;
import java.util.Arrays;
import java.util.Comparator;

/** Counts the answers that are not as due, and says which they are. */
final class Check {
    /** A call whose answer, or whose exception, is looked at. */
    interface Call {
        long answer();
    }

    /** A way to an object; each time it is gone, another object stands at its end. */
    interface Made {
        ChunkPacker make();
    }

    /** A call on an object that was made for it. */
    interface CallOn {
        long answer(ChunkPacker x);
    }

    private int wrong = 0;
    private String where = "";

    void due(String what, long got, long want) {
        if (got != want) {
            fault(what + " answered " + got + ", due is " + want);
        }
    }

    void due(String what, boolean got, boolean want) {
        due(what, got ? 1 : 0, want ? 1 : 0);
    }

    void due(String what, String got, String want) {
        if (!got.equals(want)) {
            fault(what + " is " + shown(got) + ", due is " + shown(want));
        }
    }

    /** The class must be the very one: the machine's own exceptions are classes below the document's. */
    void refused(String what, Class<? extends RuntimeException> want, Call call) {
        try {
            fault(what + " answered " + call.answer() + ", due is " + want.getSimpleName());
        } catch (RuntimeException e) {
            if (e.getClass() != want) {
                fault(what + " threw " + e.getClass().getSimpleName() + ", due is " + want.getSimpleName());
            }
        }
    }

    /** The call is refused, and the object is then as one on which it was never tried. */
    void refused(String what, Class<? extends RuntimeException> want, Made made, CallOn call) {
        ChunkPacker tried = made.make();
        ChunkPacker spared = made.make();
        refused(what, want, () -> call.answer(tried));
        due(what + ": what the object is then", Rows.state(tried), Rows.state(spared));
        due(what + ": what the object does then", Rows.deeds(tried), Rows.deeds(spared));
    }

    void fault(String text) {
        wrong++;
        System.out.println(where + text);
    }

    /** Runs each test that bears a sentence, by name, and tells the sentence with each fault of it. */
    void runSentences(Object tests) {
        Method[] methods = tests.getClass().getDeclaredMethods();
        Arrays.sort(methods, Comparator.comparing(Method::getName));
        int ran = 0;
        for (Method method : methods) {
            Sentence sentence = method.getAnnotation(Sentence.class);
            if (sentence != null) {
                where = method.getName() + " (" + sentence.in() + ", \"" + sentence.says() + "\"): ";
                run(tests, method);
                ran++;
            }
        }
        where = "";
        if (ran == 0) {
            fault("no test bears a sentence");
        }
        System.out.println(ran + " sentences");
    }

    private void run(Object tests, Method method) {
        try {
            method.invoke(tests);
        } catch (InvocationTargetException e) {
            fault("the test ended with " + e.getCause());
        } catch (IllegalAccessException e) {
            fault("the test can't be run");
        }
    }

    private static String shown(String text) {
        return text.length() <= 400 ? text : text.substring(0, 400) + ".. (" + text.length() + " characters)";
    }

    /** Ends the test: with exit code 1 if an answer was wrong. */
    void end() {
        System.out.println(wrong == 0 ? "all answers are as due" : wrong + " answers are not as due");
        if (wrong != 0) {
            System.exit(1);
        }
    }
}
