/** The sentences of the Terms about scripts. */
final class ScriptBounds {
    private static final String SCRIPTS = "Scripts";

    /** One script of each form, with as many digits as it can have. */
    private static final String[] FORMS = {"alloy 123", "mould 12", "buy 1 23", "cast 1 2 3", "test 12", "melt 12",
        "renew 1", "limit 12", "step 1"};

    private ScriptBounds() {
    }

    static void test() {
        bufferOf60Characters();
        formAsAWhole();
        repetitions();
        eachForm();
        digits();
        oneDigitOrTwo();
        alternatives();
        standForTheMethods();
        inOrder();
        allOrNone();
        firstCharacterThatCannotContinue();
        theEndComesTooEarly();
    }

    private static boolean hasForm(String script) {
        return !Given.outcomeOf(new BowFoundry(), script).equals("throws.IllegalArgumentException");
    }

    /** The error position, or "none" if the script has the right form. */
    private static String error(String script) {
        BowFoundry x = new BowFoundry();
        Given.outcomeOf(x, script);
        String error = Check.outcome(() -> x.errorPosition());
        return hasForm(script) ? "none" : error;
    }

    private static void wrongAt(int position, String script) {
        Check.same("error of <" + script + ">", error(script), "" + position);
    }

    private static void bufferOf60Characters() {
        Check.sentence(SCRIPTS, "A script is typed into a buffer of at most 60 characters and then run.");
        String longest = "step 1;step 2;step 3;step 4;step 5;step 1;limit 12;alloy 321";
        Check.same("its length", longest.length(), 60);
        BowFoundry x = new BowFoundry();
        Check.type(x, longest);
        Check.refuses("a 61st one", Given.STATE, () -> x.type('1'));
        Check.same("60 characters run", x.runScript(), 8);
        Check.same("the last one counts", x.parts(0, 2), 1);
        BowFoundry y = new BowFoundry();
        Check.type(y, longest.substring(0, 59));
        Check.same("the 60th one", y.type('0'), 60);
        Check.same("runs too", y.runScript(), 8);
        Check.same("the last one counts again", y.parts(0, 2), 0);
    }

    private static void formAsAWhole() {
        Check.sentence(SCRIPTS, "It has the form");
        Check.same("a command", hasForm("step 1"), true);
        Check.same("nothing", hasForm(""), false);
        Check.same("space before it", hasForm(" step 1"), false);
        Check.same("space behind it", hasForm("step 1 "), false);
        Check.same("a capital letter", hasForm("Step 1"), false);
    }

    private static void repetitions() {
        Check.sentence(SCRIPTS, "script = command { \";\" command}");
        Check.sentence(SCRIPTS, "where braces mean zero or more repetitions");
        String script = "step 1";
        for (int commands = 1; commands <= 8; commands++) {
            Check.same(commands + " commands", Given.outcomeOf(new BowFoundry(), script), "" + commands);
            wrongAt(script.length() + 1, script + ";");
            wrongAt(script.length() + 1, script + ";;");
            wrongAt(script.length(), script + ",");
            script += ";step 1";
        }
        wrongAt(0, ";");
        wrongAt(0, ";step 1");
        wrongAt(7, "step 1; step 1");
    }

    /** In a script of each form each character is put wrong, and the script is cut off before each. */
    private static void eachForm() {
        Check.sentence(SCRIPTS, "command = \"alloy \" digit digit digit | \"mould \" number "
                + "| \"buy \" digit \" \" number | \"cast \" digit \" \" digit \" \" digit | \"test \" number "
                + "| \"melt \" number | \"renew \" digit | \"limit \" number | \"step \" digit");
        for (String form : FORMS) {
            Check.same("form of " + form, hasForm(form), true);
            wrongAt(form.length(), form + "~");
            for (int i = 0; i < form.length(); i++) {
                wrongAt(i, form.substring(0, i) + "~" + form.substring(i + 1));
                boolean oneDigitLess = i == form.length() - 1 && form.matches("(mould|buy 1|test|melt|limit) ..");
                Check.same("<" + form.substring(0, i) + ">", error(form.substring(0, i)),
                        oneDigitLess ? "none" : "" + i);
            }
        }
    }

    /** The characters next to the digits are '/' and ':'. */
    private static void digits() {
        Check.sentence(SCRIPTS, "digit digit digit");
        for (String form : FORMS) {
            for (int i = 0; i < form.length(); i++) {
                if (form.charAt(i) >= '0' && form.charAt(i) <= '9') {
                    String before = form.substring(0, i);
                    String behind = form.substring(i + 1);
                    Check.same(form + " with a 0", hasForm(before + "0" + behind), true);
                    Check.same(form + " with a 9", hasForm(before + "9" + behind), true);
                    wrongAt(i, before + "/" + behind);
                    wrongAt(i, before + ":" + behind);
                    wrongAt(i, before + " " + behind);
                }
            }
        }
    }

    private static void oneDigitOrTwo() {
        Check.sentence(SCRIPTS, "number = digit [ digit ]");
        Check.sentence(SCRIPTS, "brackets an optional part");
        for (String name : new String[] {"mould ", "buy 0 ", "test ", "melt ", "limit "}) {
            Check.same(name + "one digit", hasForm(name + "7"), true);
            Check.same(name + "one digit, then more", hasForm(name + "7;step 1"), true);
            Check.same(name + "two digits", hasForm(name + "17"), true);
            Check.same(name + "two digits, then more", hasForm(name + "17;step 1"), true);
            wrongAt(name.length(), name);
            wrongAt(name.length(), name + ";");
            wrongAt(name.length() + 2, name + "171");
        }
        BowFoundry x = new BowFoundry();
        Given.run(x, "limit 7");
        Check.same("one digit", x.tolerance(), 7);
        Given.run(x, "limit 17");
        Check.same("two digits", x.tolerance(), 17);
        Given.run(x, "limit 09");
        Check.same("beginning with 0", x.tolerance(), 9);
        Given.run(x, "limit 00");
        Check.same("least", x.tolerance(), 0);
        Given.run(x, "limit 99");
        Check.same("greatest", x.tolerance(), 99);
    }

    /** Two of the names begin with m; all the other names begin with letters of their own. */
    private static void alternatives() {
        Check.sentence(SCRIPTS, "a bar an alternative.");
        wrongAt(1, "m");
        wrongAt(1, "m~");
        wrongAt(1, "mm");
        wrongAt(2, "mo");
        wrongAt(2, "me");
        wrongAt(2, "mo~");
        wrongAt(2, "meuld 1");
        wrongAt(2, "molt 1");
        wrongAt(3, "mel");
        wrongAt(3, "mou");
        wrongAt(3, "melould 1");
        wrongAt(4, "moult 1");
        for (char c = ' '; c <= '~'; c++) {
            wrongAt("abclmrst".indexOf(c) >= 0 ? 1 : 0, "" + c);
        }
    }

    private static void standForTheMethods() {
        Check.sentence(SCRIPTS, "The commands stand for the methods addAlloy, addMould, buy, cast, inspect, melt, "
                + "renewMould, setTolerance and setStep with the numbers as arguments in the order of the parameters.");
        BowFoundry x = new BowFoundry();
        Given.run(x, "alloy 123;alloy 100;mould 50;mould 1;buy 2 10;buy 0 99");
        Check.same("addAlloy", x.parts(0, 0) * 100 + x.parts(0, 1) * 10 + x.parts(0, 2), 123);
        Check.same("addMould and buy", Given.storeText(x), "c99t0s10 50x0 1x0");
        Given.run(x, "cast 1 0 3;cast 1 1 2");
        Check.same("cast", Given.storeText(x), "c94t0s10 50x3 1x2");
        Given.run(x, "limit 99;test 1;limit 0;test 0");
        Check.same("inspect", x.isFailed(0) + " " + x.soldTotal(), "true 2");
        Given.run(x, "melt 0;renew 0;limit 98;step 5");
        Check.same("melt", x.meltedTotal(), 3);
        Check.same("renewMould", Given.storeText(x), "c94t0s10 50x0 1x2");
        Check.same("setTolerance", x.tolerance(), 98);
        Check.same("setStep", x.step(), 5);
    }

    private static void inOrder() {
        Check.sentence(SCRIPTS, "The commands are executed in order");
        BowFoundry x = Given.workshop();
        Given.run(x, "step 1;step 5;step 3");
        Check.same("the last one counts", x.step(), 3);
        Check.same("each after those before it", Given.outcomeOf(x, "cast 0 0 1;limit 0;test 0;melt 0"), "4");
        Check.same("not before them", Given.outcomeOf(x, "test 1;cast 0 0 1"), "throws.IllegalStateException");
        Check.same("the first one", x.failedCommand(), 0);
        Check.same("numbers go on", Given.outcomeOf(x, "cast 0 0 1;cast 0 0 1;test 1;test 2"), "4");
    }

    private static void allOrNone() {
        Check.sentence(SCRIPTS, "and either all of them take effect or none.");
        String[] scripts = {"step 0", "step 1;step 0", "step 0;step 1", "step 1;step 0;limit 7",
            "alloy 111;mould 9;buy 0 9;cast 0 0 2;limit 99;test 0;melt 0",
            "cast 0 0 1;limit 0;test 0;melt 0;renew 0;step 1;cast 1 0 1"};
        int[] failing = {0, 1, 0, 1, 6, 6};
        for (int i = 0; i < scripts.length; i++) {
            BowFoundry x = Given.workshop();
            String before = View.state(x);
            Check.same(scripts[i], Given.outcomeOf(x, scripts[i]), "throws.IllegalStateException");
            Check.same("command of " + scripts[i], x.failedCommand(), failing[i]);
            Check.same("none of " + scripts[i], View.state(x), before);
            Check.same("numbers after " + scripts[i], x.cast(0, 0, 1) + x.firstBow(0), 0);
        }
    }

    private static void firstCharacterThatCannotContinue() {
        Check.sentence(SCRIPTS, "is the index of the first character that cannot continue any script of this form");
        wrongAt(0, "~");
        wrongAt(0, "x;step 1");
        wrongAt(6, "step 1x;step x");
        wrongAt(13, "step 1;step 2x");
        wrongAt(12, "step 1;step x;stop");
        wrongAt(7, "step 1;xtep 1");
        wrongAt(5, "step -1");
        wrongAt(59, "step 1;step 1;step 1;step 1;step 1;step 1;step 1;limit 1;st~");
        wrongAt(59, "limit 12;limit 12;limit 12;limit 12;limit 12;limit 12;alloy~");
    }

    private static void theEndComesTooEarly() {
        Check.sentence(SCRIPTS, "or the length of the script if every character can and the end comes too early.");
        wrongAt(0, "");
        wrongAt(1, "s");
        wrongAt(7, "step 1;");
        wrongAt(60, "step 1;step 1;step 1;step 1;step 1;step 1;step 1;limit 1;ste");
        wrongAt(60, "limit 12;limit 12;limit 12;limit 12;limit 12;limit 12;alloy ");
        wrongAt(60, "limit 12;limit 12;limit 12;limit 12;limit 12;test 1;melt 12;");
    }
}
