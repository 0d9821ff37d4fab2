/** Counts and prints the answers that are not as due; each test ends with end(). */
final class Check {
    private static int asked = 0;
    private static int wrong = 0;
    private static String sentence = "";

    private Check() {
    }

    /** What is asked from here on is told by this sentence of the document, which is printed with what is wrong. */
    static void sentence(String words) {
        sentence = words;
    }

    static void due(String what, int got, int want) {
        asked++;
        if (got != want) {
            wrong++;
            String where = sentence.isEmpty() ? "" : "\"" + sentence + "\": ";
            System.out.println(where + what + " answered " + got + ", due is " + want);
        }
    }

    static void holds(String what, boolean so) {
        due(what, so ? 1 : 0, 1);
    }

    static void badArgument(String what, Runnable call) {
        due(what + " (1 IllegalArgumentException, 2 IllegalStateException, 3 another)", thrownBy(call), 1);
    }

    static void badState(String what, Runnable call) {
        due(what + " (1 IllegalArgumentException, 2 IllegalStateException, 3 another)", thrownBy(call), 2);
    }

    private static int thrownBy(Runnable call) {
        try {
            call.run();
            return 0;
        } catch (IllegalArgumentException e) {
            return e.getClass() == IllegalArgumentException.class ? 1 : 3;
        } catch (IllegalStateException e) {
            return e.getClass() == IllegalStateException.class ? 2 : 3;
        } catch (RuntimeException e) {
            return 3;
        }
    }

    static void end() {
        System.out.println(asked + " answers asked for, " + wrong + " not as due");
        if (wrong != 0) {
            System.exit(1);
        }
    }
}
