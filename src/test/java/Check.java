/** What the tests share: it counts what is not as due, and prints it. */
final class Check {
    interface Call {
        Object answer();
    }

    private static int wrong = 0;
    private static Document document;
    private static String sentence = "";

    private Check() {
    }

    static void read(Document read) {
        document = read;
    }

    /** Names the sentence that the checks from here on hold the class to; the document must have it. */
    static void sentence(String section, String words) {
        sentence = section + ", \"" + words + "\": ";
        same("the document has it", document.names(section, words), true);
    }

    /** The checks from here on are not for one sentence. */
    static void noSentence() {
        sentence = "";
    }

    /** Fails if the answer is not the due one, of the same class. */
    static void same(String what, Object got, Object due) {
        if (!got.equals(due)) {
            wrong++;
            System.out.println(sentence + what + ": answered " + got + ", due is " + due);
        }
    }

    /** Fails if the call does not throw an exception of just this class. */
    static void refuses(String what, Class<? extends RuntimeException> due, Call call) {
        same(what, outcome(call), "throws." + due.getSimpleName());
    }

    /** Fails if the call throws an exception. */
    static void answers(String what, Call call) {
        same(what + " answers", outcome(call).startsWith("throws."), false);
    }

    /** The answer as a text, or the class of the exception. */
    static String outcome(Call call) {
        try {
            return String.valueOf(call.answer());
        } catch (RuntimeException e) {
            return "throws." + e.getClass().getSimpleName();
        }
    }

    static void type(BowFoundry x, String text) {
        for (char c : text.toCharArray()) {
            x.type(c);
        }
    }

    static String output(BowFoundry x, int length) {
        StringBuilder text = new StringBuilder();
        for (int i = 0; i < length; i++) {
            text.append(x.outputAt(i));
        }
        return text.toString();
    }

    static void end(String name) {
        System.out.println(name + ": " + (wrong == 0 ? "all is as due" : wrong + " not as due"));
        if (wrong != 0) {
            System.exit(1);
        }
    }
}
