import java.util.function.IntSupplier;

/** Counts and prints the answers that are not as due. */
final class Check {
    private static int wrong = 0;
    private static String sentence = "";

    private Check() {
    }

    /** The document's words that the answers from here on are held to. */
    static void sentence(String words) {
        sentence = "[" + words + "] ";
    }

    static void due(String what, Object got, Object want) {
        if (!want.equals(got)) {
            wrong++;
            System.out.println(sentence + what + " answered " + got + ", due is " + want);
        }
    }

    static void throwing(String what, Class<? extends RuntimeException> want, Runnable call) {
        due(what, thrownBy(call), want.getSimpleName());
    }

    static void fine(String what, Runnable call) {
        due(what, thrownBy(call), "nothing");
    }

    /** The call answers so, and nothing that the object shows is another after it. */
    static void idle(String what, BufferedCores m, IntSupplier call, int want) {
        String before = Rig.view(m);
        due(what, call.getAsInt(), want);
        due("the state behind " + what, Rig.view(m), before);
    }

    /** The call throws so, and nothing that the object shows is another after it. */
    static void refused(String what, BufferedCores m, Class<? extends RuntimeException> want, Runnable call) {
        String before = Rig.view(m);
        throwing(what, want, call);
        due("the state behind " + what, Rig.view(m), before);
    }

    private static String thrownBy(Runnable call) {
        try {
            call.run();
            return "nothing";
        } catch (RuntimeException e) {
            return e.getClass().getSimpleName();
        }
    }

    static void end() {
        System.out.println(wrong == 0 ? "all answers are as due" : wrong + " answers are not as due");
        if (wrong != 0) {
            System.exit(1);
        }
    }
}
