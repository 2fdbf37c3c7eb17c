/** What the tests by the document's sentences share: a wrong answer is told with the sentence that does not hold. */
abstract class SentenceChecks {
    static final int INVALID = -1000000001;
    static final int NOT_POSSIBLE = -1000000002;
    static final int LIMIT = -1000000003;
    static final int NOT_FOUND = -1000000004;
    /** Arguments that are out of every range. */
    static final int[] FAR_OUT = {Integer.MIN_VALUE, -1000000001, 1000000000, Integer.MAX_VALUE};

    private static int wrong = 0;
    private static String sentence = "";

    /** The sentence that the checks behind this are for. */
    static void says(String words) {
        sentence = words;
    }

    static void due(String call, int got, int want) {
        if (got != want) {
            tellWrong(call + " answered " + got + ", due is " + want);
        }
    }

    static void tellWrong(String what) {
        wrong++;
        System.out.println("\"" + sentence + "\": " + what);
    }

    static void endWithCode() {
        if (wrong != 0) {
            System.out.println(wrong + " answers are not as due");
            System.exit(1);
        }
    }

    /** Does a call that is given by its name and its arguments. */
    static int call(BellowsRound x, String words) {
        String[] parts = words.split(" ");
        int[] at = new int[3];
        for (int i = 1; i < parts.length; i++) {
            at[i - 1] = Integer.parseInt(parts[i]);
        }
        switch (parts[0]) {
            case "smithy": return x.smithy(at[0], at[1]);
            case "walk": return x.walk(at[0]);
            case "buy": return x.buy(at[0]);
            case "patch": return x.patch(at[0]);
            case "hide": return x.hide(at[0]);
            case "collect": return x.collect(at[0]);
            case "end": return x.end(at[0]);
            case "set": return x.set(at[0], at[1]);
            case "smithyOf": return x.smithyOf(at[0], at[1]);
            case "why": return x.why(at[0], at[1]);
            case "mend": return x.mend(at[0], at[1], at[2]);
            case "coldIn": return x.coldIn(at[0]);
            case "next": return x.next();
            case "round": return x.round(at[0], at[1]);
            case "mean": return x.mean();
            case "count": return x.count(at[0]);
            case "undo": return x.undo();
            case "type": return x.type(at[0]);
            case "clearText": return x.clearText();
            case "fault": return x.fault(at[0]);
            case "play": return x.play();
            default: throw new IllegalArgumentException(words);
        }
    }

    /** An object behind some calls. */
    static BellowsRound behind(String... calls) {
        BellowsRound x = new BellowsRound();
        for (String words : calls) {
            call(x, words);
        }
        return x;
    }

    static void due(BellowsRound x, String words, int want) {
        due(words, call(x, words), want);
    }

    /** A call that is refused with an error, and that nothing is changed by it. */
    static void dueRefused(BellowsRound x, String words, int error) {
        String before = numbers(x);
        int states = x.count(12);
        int length = x.count(13);
        int fault = x.fault(0);
        due(words, call(x, words), error);
        dueNumbers("behind " + words, x, before);
        due("count(12) behind " + words, x.count(12), states);
        due("count(13) behind " + words, x.count(13), length);
        due("fault(0) behind " + words, x.fault(0), fault);
    }

    /** All numbers of the road, the mender and the smithies; not those of the history and the text. */
    static String numbers(BellowsRound x) {
        StringBuilder values = new StringBuilder();
        for (int what = 0; what < 24; what++) {
            if (what < 12 || what > 19) {
                values.append(x.count(what)).append(' ');
            }
        }
        for (int number = 0; number < x.count(0); number++) {
            for (int what = 0; what < 11; what++) {
                values.append(x.smithyOf(number, what)).append(' ');
            }
        }
        return values.toString();
    }

    static void dueNumbers(String when, BellowsRound x, String want) {
        String got = numbers(x);
        if (!got.equals(want)) {
            tellWrong(when + " all numbers are " + got + ", due are " + want);
        }
    }

    /** A road with smithies, given by their miles and sizes. */
    static BellowsRound road(int... milesAndSizes) {
        BellowsRound x = new BellowsRound();
        for (int i = 0; i < milesAndSizes.length; i += 2) {
            x.smithy(milesAndSizes[i], milesAndSizes[i + 1]);
        }
        return x;
    }

    /** A smithy of the size 9 at the market, whose wear has grown by 5 on each day, and 500 of leather. */
    static BellowsRound market(int days) {
        BellowsRound x = road(0, 9);
        x.buy(500);
        endDays(x, days);
        return x;
    }

    static void endDays(BellowsRound x, int days) {
        for (int left = days; left > 0; left -= 99) {
            x.end(Math.min(99, left));
        }
    }

    static void type(BellowsRound x, String text) {
        for (int i = 0; i < text.length(); i++) {
            x.type(text.charAt(i));
        }
    }

    static BellowsRound withText(String text) {
        BellowsRound x = new BellowsRound();
        type(x, text);
        return x;
    }

    static void dueFault(BellowsRound x, String text, int position, int reason, int cause) {
        x.clearText();
        type(x, text);
        due("fault(0) of " + text, x.fault(0), position);
        due("fault(1) of " + text, x.fault(1), reason);
        due("fault(2) of " + text, x.fault(2), cause);
    }

    static void dueFault(String text, int position, int reason, int cause) {
        dueFault(new BellowsRound(), text, position, reason, cause);
    }

    static void dueNoFault(String text) {
        dueFault(text, NOT_FOUND, NOT_FOUND, NOT_FOUND);
    }
}
