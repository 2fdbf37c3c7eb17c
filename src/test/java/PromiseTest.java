/** For each promise of the document the ordinary answers, the edges and the wrong inputs, worked out by hand. */
public final class PromiseTest {
    private static final int INVALID = -1000000001;
    private static final int NOT_POSSIBLE = -1000000002;
    private static final int LIMIT = -1000000003;
    private static final int NOT_FOUND = -1000000004;

    private static int wrong = 0;
    private static int promise = 0;

    private static void due(String call, int got, int want) {
        if (got != want) {
            wrong++;
            System.out.println("promise " + promise + ": " + call + " answered " + got + ", due is " + want);
        }
    }

    public static void main(String[] args) {
        constants();
        newObject();
        smithy();
        walk();
        buy();
        patch();
        hide();
        collect();
        collectFromCold();
        end();
        endOfLongTime();
        set();
        smithyOf();
        smithyOfColdDays();
        why();
        mend();
        coldIn();
        next();
        round();
        mean();
        count();
        countLongestCold();
        undo();
        undoBringsAllBack();
        type();
        clearText();
        faultOfForm();
        faultOfCall();
        play();
        if (wrong != 0) {
            System.out.println(wrong + " answers are not as due");
            System.exit(1);
        }
    }

    private static void type(BellowsRound x, String text) {
        for (int i = 0; i < text.length(); i++) {
            x.type(text.charAt(i));
        }
    }

    private static BellowsRound withText(String text) {
        BellowsRound x = new BellowsRound();
        type(x, text);
        return x;
    }

    private static void constants() {
        due("INVALID_ARGUMENT", BellowsRound.INVALID_ARGUMENT, INVALID);
        due("NOT_POSSIBLE", BellowsRound.NOT_POSSIBLE, NOT_POSSIBLE);
        due("LIMIT_REACHED", BellowsRound.LIMIT_REACHED, LIMIT);
        due("NOT_FOUND", BellowsRound.NOT_FOUND, NOT_FOUND);
    }

    private static void newObject() {
        promise = 1;
        BellowsRound x = new BellowsRound();
        int[] first = {0, 0, 0, 10, 0, 100, 0, 0, 0, 0, 0, 0, 0, 0};
        for (int what = 0; what < first.length; what++) {
            due("count(" + what + ")", x.count(what), first[what]);
        }
        due("count(20)", x.count(20), 30);
        due("count(21)", x.count(21), 10);
        due("count(22)", x.count(22), 4);
        due("count(23)", x.count(23), 60);
        x.smithy(5, 5);
        due("count(0) of another object", new BellowsRound().count(0), 0);
    }

    private static void smithy() {
        promise = 2;
        BellowsRound x = new BellowsRound();
        due("smithy(-1, 1)", x.smithy(-1, 1), INVALID);
        due("smithy(100, 1)", x.smithy(100, 1), INVALID);
        due("smithy(0, 0)", x.smithy(0, 0), INVALID);
        due("smithy(0, 10)", x.smithy(0, 10), INVALID);
        due("smithy(least, least)", x.smithy(Integer.MIN_VALUE, Integer.MIN_VALUE), INVALID);
        due("smithy(most, most)", x.smithy(Integer.MAX_VALUE, Integer.MAX_VALUE), INVALID);
        due("count(0)", x.count(0), 0);
        due("count(12)", x.count(12), 0);
        due("smithy(0, 1)", x.smithy(0, 1), 0);
        due("smithy(99, 9)", x.smithy(99, 9), 1);
        due("smithyOf(1, 0)", x.smithyOf(1, 0), 99);
        due("smithyOf(1, 1)", x.smithyOf(1, 1), 9);
        due("smithyOf(1, 2)", x.smithyOf(1, 2), 0);
        due("smithyOf(1, 4)", x.smithyOf(1, 4), 100);
        for (int i = 2; i < 8; i++) {
            due("smithy(99, 9)", x.smithy(99, 9), i);
        }
        due("smithy(50, 5)", x.smithy(50, 5), LIMIT);
        due("smithy(100, 5)", x.smithy(100, 5), INVALID);
        due("smithy(50, 0)", x.smithy(50, 0), INVALID);
        due("count(0)", x.count(0), 8);
    }

    private static void walk() {
        promise = 3;
        BellowsRound x = new BellowsRound();
        due("walk(-1)", x.walk(-1), INVALID);
        due("walk(100)", x.walk(100), INVALID);
        due("walk(least)", x.walk(Integer.MIN_VALUE), INVALID);
        due("walk(most)", x.walk(Integer.MAX_VALUE), INVALID);
        due("walk(0)", x.walk(0), 10);
        due("count(12)", x.count(12), 1);
        due("walk(1)", x.walk(1), 9);
        due("walk(11)", x.walk(11), 8);
        due("walk(0)", x.walk(0), 6);
        due("walk(30)", x.walk(30), 3);
        due("walk(61)", x.walk(61), NOT_POSSIBLE);
        due("count(2)", x.count(2), 30);
        due("count(3)", x.count(3), 3);
        due("walk(60)", x.walk(60), 0);
        due("walk(60)", x.walk(60), 0);
        due("walk(59)", x.walk(59), NOT_POSSIBLE);
        due("walk(100)", x.walk(100), INVALID);
        due("count(11)", x.count(11), 1 + 10 + 11 + 30 + 30);
        x = new BellowsRound();
        due("walk(99)", x.walk(99), 0);
    }

    private static void buy() {
        promise = 4;
        BellowsRound x = new BellowsRound();
        due("buy(0)", x.buy(0), INVALID);
        due("buy(1000)", x.buy(1000), INVALID);
        due("buy(-1)", x.buy(-1), INVALID);
        due("buy(most)", x.buy(Integer.MAX_VALUE), INVALID);
        due("buy(1)", x.buy(1), 1);
        due("count(5)", x.count(5), 98);
        due("buy(99)", x.buy(99), 100);
        due("count(5)", x.count(5), -100);
        due("count(7)", x.count(7), 200);
        due("buy(900)", x.buy(900), LIMIT);
        due("count(4)", x.count(4), 100);
        due("buy(899)", x.buy(899), 999);
        due("buy(1)", x.buy(1), LIMIT);
        due("buy(1000)", x.buy(1000), INVALID);
        due("count(5)", x.count(5), 100 - 2 * 999);
        x.walk(1);
        due("buy(1) away from the market", x.buy(1), NOT_POSSIBLE);
        due("buy(999) away from the market", x.buy(999), NOT_POSSIBLE);
        due("buy(0) away from the market", x.buy(0), INVALID);
    }

    private static void patch() {
        promise = 5;
        BellowsRound x = new BellowsRound();
        due("patch(0)", x.patch(0), INVALID);
        x.smithy(0, 9);
        due("patch(-1)", x.patch(-1), INVALID);
        due("patch(1)", x.patch(1), INVALID);
        due("patch(most)", x.patch(Integer.MAX_VALUE), INVALID);
        due("patch(0) without wear", x.patch(0), NOT_POSSIBLE);
        x.end(11);
        due("patch(0) without leather", x.patch(0), NOT_POSSIBLE);
        x.buy(5);
        due("patch(0) with 5 of leather for a wear of 55", x.patch(0), NOT_POSSIBLE);
        x.buy(1);
        due("patch(0)", x.patch(0), 18);
        due("smithyOf(0, 2)", x.smithyOf(0, 2), 18);
        due("smithyOf(0, 7)", x.smithyOf(0, 7), 4 + 18);
        due("smithyOf(0, 9)", x.smithyOf(0, 9), 1);
        due("count(3)", x.count(3), 9);
        due("count(4)", x.count(4), 0);
        due("count(5)", x.count(5), 100 - 12);
        due("count(8)", x.count(8), 22);
        x.buy(50);
        due("patch(0)", x.patch(0), 6);
        due("smithyOf(0, 7)", x.smithyOf(0, 7), 22 + 10);
        x.walk(1);
        due("patch(0) from the mile 1", x.patch(0), NOT_POSSIBLE);
    }

    private static void hide() {
        promise = 6;
        BellowsRound x = new BellowsRound();
        due("hide(0)", x.hide(0), INVALID);
        x.smithy(0, 2);
        due("hide(-1)", x.hide(-1), INVALID);
        due("hide(1)", x.hide(1), INVALID);
        due("hide(least)", x.hide(Integer.MIN_VALUE), INVALID);
        x.buy(7);
        due("hide(0) without wear", x.hide(0), NOT_POSSIBLE);
        x.end(1);
        due("hide(0) with 7 of 8 leather", x.hide(0), NOT_POSSIBLE);
        x.buy(1);
        due("hide(0)", x.hide(0), 3 * 4 + 3 * 8);
        due("smithyOf(0, 2)", x.smithyOf(0, 2), 0);
        due("smithyOf(0, 9)", x.smithyOf(0, 9), 1);
        due("count(3)", x.count(3), 7);
        due("count(4)", x.count(4), 0);
        due("count(8)", x.count(8), 36);
        x.set(1, 2);
        x.end(1);
        x.buy(8);
        due("hide(0) with 2 hours", x.hide(0), NOT_POSSIBLE);
        x.set(1, 3);
        due("hide(0) on the day that keeps its 2 hours", x.hide(0), NOT_POSSIBLE);
        x.end(1);
        due("hide(0)", x.hide(0), 72);
        x.end(1);
        x.buy(8);
        due("hide(0) with a debt above the patience", x.hide(0), NOT_POSSIBLE);
        x.set(3, 72);
        due("hide(0) with a debt that is the patience", x.hide(0), 108);
    }

    private static void collect() {
        promise = 7;
        BellowsRound x = new BellowsRound();
        due("collect(0)", x.collect(0), INVALID);
        x.smithy(0, 9);
        due("collect(-1)", x.collect(-1), INVALID);
        due("collect(1)", x.collect(1), INVALID);
        due("collect(0) that owes nothing", x.collect(0), NOT_POSSIBLE);
        x.end(2);
        x.buy(10);
        x.patch(0);
        x.walk(1);
        due("collect(0) from the mile 1", x.collect(0), NOT_POSSIBLE);
        x.walk(0);
        due("collect(0)", x.collect(0), 7);
        due("smithyOf(0, 7)", x.smithyOf(0, 7), 0);
        due("smithyOf(0, 8)", x.smithyOf(0, 8), 7);
        due("count(5)", x.count(5), 100 - 20 + 7);
        due("count(3)", x.count(3), 10 - 1 - 1 - 1);
        due("collect(0) again", x.collect(0), NOT_POSSIBLE);
    }

    private static void collectFromCold() {
        BellowsRound x = new BellowsRound();
        x.smithy(0, 9);
        x.buy(1);
        x.end(1);
        x.patch(0);
        x.set(0, 99);
        x.end(3);
        due("smithyOf(0, 5)", x.smithyOf(0, 5), 1);
        due("collect(0) of 7, cold", x.collect(0), 3);
        due("collect(0) of 4, cold", x.collect(0), 2);
        due("collect(0) of 2, cold", x.collect(0), 1);
        due("collect(0) of 1, cold", x.collect(0), 0);
        due("smithyOf(0, 7)", x.smithyOf(0, 7), 1);
        due("smithyOf(0, 8)", x.smithyOf(0, 8), 6);
        x.set(0, 30);
        due("collect(0) of 1, warm", x.collect(0), 1);
        due("collect(0) of 0", x.collect(0), NOT_POSSIBLE);
    }

    private static void end() {
        promise = 8;
        BellowsRound x = new BellowsRound();
        due("end(0)", x.end(0), INVALID);
        due("end(100)", x.end(100), INVALID);
        due("end(-1)", x.end(-1), INVALID);
        due("end(most)", x.end(Integer.MAX_VALUE), INVALID);
        due("end(1) on an empty road", x.end(1), 0);
        int[] growth = {1, 2, 2, 3, 3, 4, 4, 5};
        for (int i = 0; i < 8; i++) {
            x.smithy(i, i + 1);
        }
        x.walk(50);
        x.end(1);
        for (int i = 0; i < 8; i++) {
            due("smithyOf(" + i + ", 2)", x.smithyOf(i, 2), growth[i]);
        }
        due("count(1)", x.count(1), 2);
        due("count(2)", x.count(2), 50);
        due("count(3)", x.count(3), 10);

        x = new BellowsRound();
        x.smithy(0, 9);
        int[] heat = {100, 98, 96, 92, 88, 82, 76, 68, 60, 50, 40, 28, 16, 2, 0};
        for (int day = 1; day <= heat.length; day++) {
            due("end(1)", x.end(1), heat[day - 1] < 30 ? 1 : 0);
            due("smithyOf(0, 2)", x.smithyOf(0, 2), 5 * day);
            due("smithyOf(0, 4) on day " + day, x.smithyOf(0, 4), heat[day - 1]);
        }
        due("end(99)", x.end(99), 1);
        due("smithyOf(0, 2)", x.smithyOf(0, 2), 100);
        due("count(1)", x.count(1), 114);
        x.buy(36);
        x.hide(0);
        x.end(1);
        due("smithyOf(0, 4) behind a hide", x.smithyOf(0, 4), 10);
        x.end(1);
        due("smithyOf(0, 4) with a wear of 10", x.smithyOf(0, 4), 8);
    }

    private static void endOfLongTime() {
        BellowsRound x = new BellowsRound();
        x.smithy(0, 1);
        for (int i = 0; i < 100; i++) {
            x.end(99);
        }
        due("count(1)", x.count(1), 9900);
        due("end(98)", x.end(98), 1);
        due("end(2)", x.end(2), LIMIT);
        due("end(99)", x.end(99), LIMIT);
        due("end(100)", x.end(100), INVALID);
        due("end(1)", x.end(1), 1);
        due("count(1)", x.count(1), 9999);
        due("end(1)", x.end(1), LIMIT);
        due("end(0)", x.end(0), INVALID);
        due("count(12)", x.count(12), 4);
    }

    private static void set() {
        promise = 9;
        BellowsRound x = new BellowsRound();
        int[] least = {1, 1, 0, 0};
        int[] most = {99, 24, 20, 500};
        int[] first = {30, 10, 4, 60};
        for (int what = 0; what < 4; what++) {
            due("set(" + what + ", below)", x.set(what, least[what] - 1), INVALID);
            due("set(" + what + ", above)", x.set(what, most[what] + 1), INVALID);
            due("set(" + what + ", least)", x.set(what, least[what]), first[what]);
            due("set(" + what + ", most)", x.set(what, most[what]), least[what]);
            due("set(" + what + ", most)", x.set(what, most[what]), most[what]);
            due("count(" + (20 + what) + ")", x.count(20 + what), most[what]);
        }
        due("set(-1, 5)", x.set(-1, 5), INVALID);
        due("set(4, 5)", x.set(4, 5), INVALID);
        due("set(most, 5)", x.set(Integer.MAX_VALUE, 5), INVALID);
        due("count(3), the day keeps its hours", x.count(3), 10);
        x.end(1);
        due("count(3) anew", x.count(3), 24);
        x.smithy(0, 1);
        due("mend(0, 1, 2) at the rate 20", x.mend(0, 1, 2), 3 * 20 + 3 * 4);
    }

    private static void smithyOf() {
        promise = 10;
        BellowsRound x = new BellowsRound();
        due("smithyOf(0, 0)", x.smithyOf(0, 0), INVALID);
        x.smithy(31, 7);
        due("smithyOf(0, -1)", x.smithyOf(0, -1), INVALID);
        due("smithyOf(0, 11)", x.smithyOf(0, 11), INVALID);
        due("smithyOf(-1, 0)", x.smithyOf(-1, 0), INVALID);
        due("smithyOf(1, 0)", x.smithyOf(1, 0), INVALID);
        due("smithyOf(8, 0)", x.smithyOf(8, 0), INVALID);
        due("smithyOf(most, most)", x.smithyOf(Integer.MAX_VALUE, Integer.MAX_VALUE), INVALID);
        int[] first = {31, 7, 0, 0, 100, 0, 0, 0, 0, 0, 4};
        for (int what = 0; what < first.length; what++) {
            due("smithyOf(0, " + what + ")", x.smithyOf(0, what), first[what]);
        }
        x.buy(100);
        x.end(7);
        x.walk(41);
        due("smithyOf(0, 10) from the mile 41", x.smithyOf(0, 10), 1);
        x.walk(31);
        x.patch(0);
        int[] then = {31, 7, 9, 0, 84, 0, 0, 13, 0, 1, 0};
        for (int what = 0; what < then.length; what++) {
            due("smithyOf(0, " + what + ")", x.smithyOf(0, what), then[what]);
        }
        x.collect(0);
        due("smithyOf(0, 7)", x.smithyOf(0, 7), 0);
        due("smithyOf(0, 8)", x.smithyOf(0, 8), 13);
        due("smithyOf(0, 10)", x.smithyOf(0, 10), 0);
        due("count(12), asking is no change", x.count(12), 4);
    }

    private static void smithyOfColdDays() {
        BellowsRound x = new BellowsRound();
        x.smithy(0, 9);
        x.end(11);
        due("smithyOf(0, 4)", x.smithyOf(0, 4), 40);
        x.set(0, 40);
        due("smithyOf(0, 5) with a heat of 40 and the cold 40", x.smithyOf(0, 5), 0);
        x.set(0, 41);
        due("smithyOf(0, 5) with a heat of 40 and the cold 41", x.smithyOf(0, 5), 1);
        due("smithyOf(0, 6), no day has ended", x.smithyOf(0, 6), 0);
        x.end(2);
        due("smithyOf(0, 6)", x.smithyOf(0, 6), 2);
        x.set(0, 1);
        due("smithyOf(0, 5)", x.smithyOf(0, 5), 0);
        due("smithyOf(0, 6), it was cold at the days' ends", x.smithyOf(0, 6), 2);
        x.end(1);
        due("smithyOf(0, 6)", x.smithyOf(0, 6), 0);
        x.end(1);
        due("smithyOf(0, 6)", x.smithyOf(0, 6), 1);
    }

    private static void why() {
        promise = 11;
        BellowsRound x = new BellowsRound();
        due("why(0, 0)", x.why(0, 0), INVALID);
        x.smithy(5, 1);
        due("why(0, -1)", x.why(0, -1), INVALID);
        due("why(0, 2)", x.why(0, 2), INVALID);
        due("why(1, 0)", x.why(1, 0), INVALID);
        due("why(-1, 1)", x.why(-1, 1), INVALID);
        due("why(0, 0) from the market", x.why(0, 0), 1);
        x.buy(4);
        x.walk(5);
        due("why(0, 0) without wear", x.why(0, 0), 5);
        due("why(0, 1) without wear", x.why(0, 1), 5);
        x.end(1);
        due("why(0, 0)", x.why(0, 0), 0);
        due("why(0, 1)", x.why(0, 1), 0);
        x.set(1, 3);
        x.set(3, 0);
        x.end(1);
        due("why(0, 1) with 3 hours", x.why(0, 1), 0);
        due("patch(0)", x.patch(0), 0);
        due("why(0, 0) with a debt", x.why(0, 0), 4);
        due("why(0, 1) with 2 hours", x.why(0, 1), 2);
        x.end(1);
        due("why(0, 1) with 3 of leather", x.why(0, 1), 3);
        due("why(0, 0) with a debt", x.why(0, 0), 4);
        x.set(3, 7);
        due("why(0, 0) with a debt that is the patience", x.why(0, 0), 0);
        x.set(3, 6);
        due("why(0, 0) with a debt above the patience", x.why(0, 0), 4);
        x.walk(6);
        due("why(0, 1), the first reason", x.why(0, 1), 1);
    }

    private static void mend() {
        promise = 12;
        BellowsRound x = new BellowsRound();
        due("mend(0, 0, 0)", x.mend(0, 0, 0), INVALID);
        x.smithy(99, 9);
        due("mend(0, 2, 0)", x.mend(0, 2, 0), INVALID);
        due("mend(0, -1, 0)", x.mend(0, -1, 0), INVALID);
        due("mend(0, 0, -1)", x.mend(0, 0, -1), INVALID);
        due("mend(0, 1, 4)", x.mend(0, 1, 4), INVALID);
        due("mend(1, 0, 0)", x.mend(1, 0, 0), INVALID);
        due("mend(-1, 0, 0)", x.mend(-1, 0, 0), INVALID);
        due("mend(0, 0, 0)", x.mend(0, 0, 0), 1);
        due("mend(0, 0, 1) without wear", x.mend(0, 0, 1), 0);
        due("mend(0, 0, 2) without wear", x.mend(0, 0, 2), 4);
        due("mend(0, 0, 3)", x.mend(0, 0, 3), 0);
        x.end(2);
        due("mend(0, 0, 1) of a wear of 10", x.mend(0, 0, 1), 1);
        due("mend(0, 0, 3) of a wear of 10", x.mend(0, 0, 3), 3);
        x.end(1);
        due("mend(0, 0, 1) of a wear of 15", x.mend(0, 0, 1), 2);
        due("mend(0, 0, 2) of a wear of 15", x.mend(0, 0, 2), 10);
        due("mend(0, 0, 3) of a wear of 15", x.mend(0, 0, 3), 5);
        due("mend(0, 1, 0)", x.mend(0, 1, 0), 3);
        due("mend(0, 1, 1)", x.mend(0, 1, 1), 36);
        due("mend(0, 1, 2)", x.mend(0, 1, 2), 120);
        due("mend(0, 1, 3)", x.mend(0, 1, 3), 0);
        x.end(99);
        due("mend(0, 0, 1) of a wear of 100", x.mend(0, 0, 1), 10);
        due("mend(0, 0, 3) of a wear of 100", x.mend(0, 0, 3), 33);
        x.set(2, 0);
        due("mend(0, 0, 2) at the rate 0", x.mend(0, 0, 2), 30);
    }

    private static void coldIn() {
        promise = 13;
        BellowsRound x = new BellowsRound();
        due("coldIn(0)", x.coldIn(0), INVALID);
        x.smithy(0, 9);
        x.smithy(0, 1);
        due("coldIn(-1)", x.coldIn(-1), INVALID);
        due("coldIn(2)", x.coldIn(2), INVALID);
        due("coldIn(most)", x.coldIn(Integer.MAX_VALUE), INVALID);
        due("coldIn(0)", x.coldIn(0), 12);
        due("coldIn(1)", x.coldIn(1), 31);
        x.set(0, 40);
        due("coldIn(0) with the cold 40, the heat being 40 on day 11", x.coldIn(0), 12);
        x.set(0, 41);
        due("coldIn(0) with the cold 41", x.coldIn(0), 11);
        x.set(0, 1);
        due("coldIn(0) with the cold 1", x.coldIn(0), 15);
        x.set(0, 30);
        x.end(11);
        due("coldIn(0)", x.coldIn(0), 1);
        due("coldIn(1)", x.coldIn(1), 20);
        x.end(1);
        due("coldIn(0)", x.coldIn(0), 0);
        due("count(1), nothing has ended by asking", x.count(1), 12);
        x.buy(36);
        x.hide(0);
        due("coldIn(0) behind a hide that leaves it cold", x.coldIn(0), 0);
        // 28; 38; 36, 34, 30, 26
        x.end(1);
        due("smithyOf(0, 4)", x.smithyOf(0, 4), 38);
        due("coldIn(0)", x.coldIn(0), 4);
    }

    private static void next() {
        promise = 14;
        BellowsRound x = new BellowsRound();
        due("next() on an empty road", x.next(), NOT_FOUND);
        x.smithy(10, 2);
        due("next() without wear", x.next(), NOT_FOUND);
        x.smithy(20, 8);
        x.end(1);
        due("next(), the soonest cold", x.next(), 1);
        x.smithy(0, 9);
        due("next(), the one without wear left out", x.next(), 1);

        x = new BellowsRound();
        x.smithy(99, 1);
        x.end(1);
        due("next() with a wear of 1", x.next(), 0);

        x = new BellowsRound();
        x.smithy(30, 4);
        x.smithy(20, 5);
        x.smithy(10, 5);
        x.end(1);
        due("next(), the nearest of the same", x.next(), 2);
        x.walk(25);
        due("next(), the lowest of the same way", x.next(), 0);
        x.walk(24);
        due("next() from the mile 24", x.next(), 1);
        x.end(1);
        // Being cold now, by the setting, all are cold first: then the greatest wear decides.
        x.smithy(24, 9);
        x.end(9);
        x.set(0, 99);
        due("coldIn(1)", x.coldIn(1), 0);
        due("coldIn(3)", x.coldIn(3), 0);
        due("smithyOf(1, 2)", x.smithyOf(1, 2), 33);
        due("smithyOf(3, 2)", x.smithyOf(3, 2), 45);
        due("next(), the greatest wear", x.next(), 3);
    }

    private static void round() {
        promise = 15;
        BellowsRound x = new BellowsRound();
        due("round(0, 0)", x.round(0, 0), INVALID);
        due("round(1, 0)", x.round(1, 0), INVALID);
        x.smithy(45, 1);
        x.smithy(5, 3);
        x.smithy(45, 9);
        due("round(0, 0)", x.round(0, 0), INVALID);
        due("round(8, 0)", x.round(8, 0), INVALID);
        due("round(9, 0)", x.round(9, 0), INVALID);
        due("round(-1, 0)", x.round(-1, 0), INVALID);
        due("round(least, 0)", x.round(Integer.MIN_VALUE, 0), INVALID);
        due("round(1, -1)", x.round(1, -1), INVALID);
        due("round(1, 3)", x.round(1, 3), INVALID);
        due("round(7, 0) without wear: 5 and 40 miles", x.round(7, 0), 1 + 4);
        due("round(7, 1) without wear", x.round(7, 1), 0);
        due("round(7, 2) without wear", x.round(7, 2), 0);
        x.walk(50);
        due("round(7, 0) from the mile 50: 45 and 40 miles", x.round(7, 0), 5 + 4);
        x.end(7);
        // wears: 7, 14, 35
        due("round(7, 0)", x.round(7, 0), 5 + 1 + 4 + 1 + 1);
        due("round(7, 1)", x.round(7, 1), 1 + 2 + 4);
        due("round(7, 2)", x.round(7, 2), 3 * 4 + 3 * 7);
        due("round(5, 0)", x.round(5, 0), 1 + 1 + 1);
        due("round(2, 0)", x.round(2, 0), 5 + 1);
        due("round(2, 1)", x.round(2, 1), 2);
        x.set(3, 0);
        x.walk(0);
        x.buy(100);
        x.end(1);
        x.walk(45);
        x.patch(2);
        // the smithy 2 has a debt above the patience of 0 now: it is walked to and not mended
        due("round(4, 0)", x.round(4, 0), 0);
        due("round(4, 1)", x.round(4, 1), 0);
        due("round(7, 0)", x.round(7, 0), 4 + 1 + 4 + 1);
        due("round(7, 2)", x.round(7, 2), 4 + 3 + 4 + 6);
        for (int i = 3; i < 8; i++) {
            x.smithy(45, 1);
        }
        due("round(255, 0)", x.round(255, 0), 4 + 1 + 4 + 1);
        due("round(256, 0)", x.round(256, 0), INVALID);

        x = new BellowsRound();
        x.smithy(99, 1);
        x.smithy(98, 1);
        x.end(1);
        due("round(1, 0) to the mile 99", x.round(1, 0), 10 + 1);
        due("round(3, 0) to the miles 98 and 99", x.round(3, 0), 10 + 1 + 1 + 1);
        due("round(3, 1)", x.round(3, 1), 2);
    }

    private static void mean() {
        promise = 16;
        BellowsRound x = new BellowsRound();
        due("mean() on an empty road", x.mean(), NOT_FOUND);
        x.smithy(0, 1);
        due("mean() without wear", x.mean(), 0);
        x.end(1);
        due("mean() of 1", x.mean(), Float.floatToIntBits(1f));
        x.smithy(0, 9);
        due("mean() of 1 and 0", x.mean(), Float.floatToIntBits(0.5f));
        x.smithy(0, 9);
        due("mean() of 1, 0 and 0", x.mean(), Float.floatToIntBits(1f / 3f));
        for (int i = 3; i < 8; i++) {
            x.smithy(0, 9);
        }
        due("mean() of 1 and seven of 0", x.mean(), Float.floatToIntBits(0.125f));
        for (int day = 1; day <= 19; day++) {
            x.end(1);
            due("mean() on day " + day, x.mean(), Float.floatToIntBits((1 + day + 35 * day) / 8f));
        }
        x.end(99);
        due("mean() of the greatest wears", x.mean(), Float.floatToIntBits(100f));
    }

    private static void count() {
        promise = 17;
        BellowsRound x = new BellowsRound();
        int[] out = {Integer.MIN_VALUE, -1, 14, 15, 19, 24, Integer.MAX_VALUE};
        for (int what : out) {
            due("count(" + what + ")", x.count(what), INVALID);
        }
        x.smithy(10, 9);
        x.smithy(0, 5);
        x.smithy(10, 8);
        x.buy(60);
        x.end(12);
        x.patch(1);
        x.walk(10);
        x.hide(0);
        x.collect(0);
        x.set(1, 24);
        type(x, "w1;");
        // wears at day 12: 60, 36, 60; patches of the smithy 1: 4 of leather; the hide of the smithy 0: 36
        // both hearths at the mile 10 have a heat of 28 and are cold; the smithy 0 owes 12 + 108 and pays half
        int[] then = {3, 12, 10, 10 - 1 - 1 - 3, 60 - 4 - 36, 100 - 120 + 60, 16 + 60, 120, 16 + 120, 1 + 4, 1, 10, 4, 3};
        for (int what = 0; what < then.length; what++) {
            due("count(" + what + ")", x.count(what), then[what]);
        }
        due("count(20)", x.count(20), 30);
        due("count(21)", x.count(21), 24);
        due("count(22)", x.count(22), 4);
        due("count(23)", x.count(23), 60);
    }

    private static void countLongestCold() {
        BellowsRound x = new BellowsRound();
        x.smithy(0, 9);
        x.end(14);
        due("count(10)", x.count(10), 3);
        x.set(0, 1);
        x.end(1);
        x.set(0, 30);
        due("count(10)", x.count(10), 4);
        x.buy(36);
        x.hide(0);
        x.set(0, 1);
        x.end(1);
        due("smithyOf(0, 6)", x.smithyOf(0, 6), 0);
        due("count(10) stays the greatest", x.count(10), 4);
        due("count(9)", x.count(9), 0);
        x.set(0, 99);
        due("count(9)", x.count(9), 1);
        due("count(10) without a day's end", x.count(10), 4);
    }

    private static void undo() {
        promise = 18;
        BellowsRound x = new BellowsRound();
        due("undo() of nothing", x.undo(), NOT_POSSIBLE);
        x.walk(100);
        due("undo() behind an error", x.undo(), NOT_POSSIBLE);
        for (int i = 1; i <= 6; i++) {
            x.buy(1);
            due("count(12)", x.count(12), Math.min(i, 4));
        }
        for (int left = 3; left >= 0; left--) {
            due("undo()", x.undo(), left);
            due("count(4)", x.count(4), 2 + left);
            due("count(12)", x.count(12), left);
        }
        due("undo() of an empty history", x.undo(), NOT_POSSIBLE);
        due("count(4)", x.count(4), 2);
        x.buy(5);
        due("undo()", x.undo(), 0);
        due("count(4)", x.count(4), 2);
    }

    private static void undoBringsAllBack() {
        String[] changes = {"smithy", "walk", "buy", "patch", "hide", "collect", "end", "set", "play"};
        for (String change : changes) {
            // A new object for each, as nothing is told of one behind its 512th call.
            BellowsRound x = new BellowsRound();
            x.smithy(0, 9);
            x.buy(50);
            x.end(12);
            int[] before = all(x);
            x.patch(0);
            int[] behindPatch = all(x);
            due("the wears differ", before[20] == behindPatch[20] ? 1 : 0, 0);
            doChange(x, change);
            due("count(12) behind " + change, x.count(12), 4);
            due("undo() of " + change, x.undo(), 3);
            dueAll(change, all(x), behindPatch);
            due("undo() of the patch", x.undo(), 2);
            dueAll("patch, behind one of " + change, all(x), before);
            due("count(13), the text stays", x.count(13), change.equals("play") ? 12 : 0);
        }
        undoOfSmithy();
    }

    private static void doChange(BellowsRound x, String change) {
        switch (change) {
            case "smithy": x.smithy(1, 1); break;
            case "walk": x.walk(9); break;
            case "buy": x.buy(3); break;
            case "patch": x.patch(0); break;
            case "hide": x.hide(0); break;
            case "collect": x.collect(0); break;
            case "end": x.end(7); break;
            case "set": x.set(0, 99); break;
            default: type(x, "b1;c0;w9;d2;"); x.play(); break;
        }
    }

    private static void dueAll(String change, int[] back, int[] ahead) {
        for (int i = 0; i < ahead.length; i++) {
            due("value " + i + " behind undo() of " + change, back[i], ahead[i]);
        }
    }

    private static void undoOfSmithy() {
        BellowsRound x = withText("d20;b36;h0;c0;d20;");
        x.smithy(0, 9);
        due("fault(0), no fault", x.fault(0), NOT_FOUND);
        due("undo()", x.undo(), 0);
        due("smithyOf(0, 0) of a smithy undone", x.smithyOf(0, 0), INVALID);
        // Wherever the orders were tried, nothing of the smithy undone may show.
        x.smithy(4, 8);
        int[] anew = {4, 8, 0, 0, 100, 0, 0, 0, 0, 0, 1};
        for (int what = 0; what < anew.length; what++) {
            due("smithyOf(0, " + what + ") of another at its place", x.smithyOf(0, what), anew[what]);
        }
    }

    /** All numbers of the state but the length of the history and that of the text. */
    private static int[] all(BellowsRound x) {
        int[] values = new int[30];
        for (int what = 0; what < 12; what++) {
            values[what] = x.count(what);
        }
        for (int what = 20; what < 24; what++) {
            values[what - 8] = x.count(what);
        }
        for (int what = 0; what < 11; what++) {
            values[18 + what] = x.smithyOf(0, what);
        }
        return values;
    }

    private static void type() {
        promise = 19;
        BellowsRound x = new BellowsRound();
        due("type(31)", x.type(31), INVALID);
        due("type(127)", x.type(127), INVALID);
        due("type(-1)", x.type(-1), INVALID);
        due("type(119 + 65536)", x.type(119 + 65536), INVALID);
        due("type(32)", x.type(32), 1);
        due("type(126)", x.type(126), 2);
        for (int i = 3; i <= 60; i++) {
            due("type(59)", x.type(59), i);
        }
        due("type(59)", x.type(59), LIMIT);
        due("type(31)", x.type(31), INVALID);
        due("count(13)", x.count(13), 60);
        due("count(12), typing is no change", x.count(12), 0);
    }

    private static void clearText() {
        promise = 20;
        BellowsRound x = new BellowsRound();
        due("clearText()", x.clearText(), 0);
        type(x, "x1;");
        due("clearText()", x.clearText(), 3);
        due("count(13)", x.count(13), 0);
        due("fault(0)", x.fault(0), NOT_FOUND);
        due("clearText()", x.clearText(), 0);
        due("count(12), clearing is no change", x.count(12), 0);
        due("type(119)", x.type(119), 1);
    }

    private static void dueFault(String text, int position, int reason, int cause) {
        BellowsRound x = withText(text);
        due("fault(0) of " + text, x.fault(0), position);
        due("fault(1) of " + text, x.fault(1), reason);
        due("fault(2) of " + text, x.fault(2), cause);
        due("play() of " + text, x.play(), NOT_POSSIBLE);
        due("count(12)", x.count(12), 0);
    }

    private static void faultOfForm() {
        promise = 21;
        BellowsRound x = new BellowsRound();
        due("fault(0) of an empty text", x.fault(0), NOT_FOUND);
        due("fault(-1)", x.fault(-1), INVALID);
        due("fault(3)", x.fault(3), INVALID);
        dueFault(";", 0, 1, 0);
        dueFault("1", 0, 1, 0);
        dueFault(" w1;", 0, 1, 0);
        dueFault("W1;", 0, 1, 0);
        dueFault("w", 0, 1, 1);
        dueFault("w;", 0, 1, 1);
        dueFault("ww1;", 0, 1, 1);
        dueFault("w-1;", 0, 1, 1);
        dueFault("w1", 0, 1, 2);
        dueFault("w1x", 0, 1, 2);
        dueFault("w12", 0, 1, 3);
        dueFault("w12 ;", 0, 1, 3);
        dueFault("w001", 0, 1, 4);
        dueFault("w0001;", 0, 1, 4);
        dueFault("w001:", 0, 1, 4);
        dueFault("b1;b2;b", 6, 1, 1);
        dueFault("b1;b2;;", 6, 1, 0);
        dueFault("b1;b2; ", 6, 1, 0);
        dueFault("b10;w01;w01", 8, 1, 3);
        x = withText("b1");
        due("fault(2) of b1", x.fault(2), 2);
        x.clearText();
        type(x, "x");
        due("fault(2) of x behind another fault", x.fault(2), 0);
    }

    private static void faultOfCall() {
        dueFault("w100;", 0, 2, INVALID);
        dueFault("w999;x", 0, 2, INVALID);
        dueFault("b0;", 0, 2, INVALID);
        dueFault("b000;", 0, 2, INVALID);
        dueFault("p0;", 0, 2, INVALID);
        dueFault("h0;", 0, 2, INVALID);
        dueFault("c0;", 0, 2, INVALID);
        dueFault("d0;", 0, 2, INVALID);
        dueFault("d100;", 0, 2, INVALID);
        dueFault("b999;b1;", 5, 2, LIMIT);
        dueFault("b1;w1;b1;", 6, 2, NOT_POSSIBLE);
        dueFault("w99;w98;x", 4, 2, NOT_POSSIBLE);
        dueFault("w99;d1;w0;w1;", 10, 2, NOT_POSSIBLE);
        dueFault("w99;d1;w98;w8;w99;", 14, 2, NOT_POSSIBLE);

        BellowsRound x = new BellowsRound();
        x.smithy(0, 9);
        type(x, "b6;d11;p0;c0;c0;");
        due("fault(0)", x.fault(0), 13);
        due("fault(1)", x.fault(1), 2);
        due("fault(2)", x.fault(2), NOT_POSSIBLE);
        due("fault(3)", x.fault(3), INVALID);
        due("count(1), telling a fault does nothing", x.count(1), 0);
        due("count(4)", x.count(4), 0);
        due("count(12)", x.count(12), 1);
        x.clearText();
        type(x, "b6;d11;p00;c000;");
        due("fault(0)", x.fault(0), NOT_FOUND);
        due("fault(2)", x.fault(2), NOT_FOUND);
        due("fault(4)", x.fault(4), INVALID);
        for (int i = 0; i < 100; i++) {
            x.end(99);
        }
        x.clearText();
        type(x, "d99;d1;");
        due("fault(0) at the last day", x.fault(0), 4);
        due("fault(2) at the last day", x.fault(2), LIMIT);
    }

    private static void play() {
        promise = 22;
        BellowsRound x = new BellowsRound();
        due("play() of an empty text", x.play(), 0);
        due("count(12)", x.count(12), 1);
        x.smithy(12, 9);
        type(x, "b50;w12;d11;p0;c0;d2;h0;");
        due("play()", x.play(), 7);
        due("count(1)", x.count(1), 13);
        due("count(2)", x.count(2), 12);
        due("count(3)", x.count(3), 7);
        due("count(4)", x.count(4), 50 - 6 - 36);
        due("count(5)", x.count(5), 100 - 100 + 22);
        due("smithyOf(0, 2)", x.smithyOf(0, 2), 0);
        due("smithyOf(0, 7)", x.smithyOf(0, 7), 120);
        due("smithyOf(0, 9)", x.smithyOf(0, 9), 2);
        due("count(12), one change", x.count(12), 3);
        due("count(13), the text stays", x.count(13), 24);
        due("play() again, not at the market", x.play(), NOT_POSSIBLE);
        due("count(12)", x.count(12), 3);
        due("undo()", x.undo(), 2);
        due("count(1)", x.count(1), 0);
        due("count(4)", x.count(4), 0);
        due("count(13)", x.count(13), 24);
        due("play() anew", x.play(), 7);
        x = withText("b1;b1;b1;b1;b1;b1;b1;b1;b1;b1;b1;b1;b1;b1;b1;b1;b1;b1;b1;b1;");
        due("count(13)", x.count(13), 60);
        due("play() of 20 orders", x.play(), 20);
        due("count(4)", x.count(4), 20);
        due("count(12)", x.count(12), 1);
    }
}
