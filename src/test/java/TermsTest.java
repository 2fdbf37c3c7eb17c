/**
 * Each sentence of the document's sections "What it is" and "Terms" that names a boundary case has a test of its own here.
 * A wrong answer is told with the sentence that does not hold.
 */
public final class TermsTest extends SentenceChecks {
    public static void main(String[] args) {
        callsOfAnObject();
        numbers();
        smithies();
        hearths();
        coldDays();
        daysThatEnd();
        heatOfDays();
        mender();
        waysAndMarket();
        mends();
        debts();
        collecting();
        settings();
        formOfTexts();
        numbersInTexts();
        faultsOfTexts();
        causesOfFaults();
        changes();
        history();
        errors();
        errorsChangeNothing();
        noSuchSmithy();
        endWithCode();
    }

    // ---- "What it is"

    private static void callsOfAnObject() {
        says("An object is used for at most 512 calls after it has been made");
        BellowsRound x = road(0, 9);
        for (int call = 2; call <= 507; call++) {
            due("set(2, " + call % 21 + "), the call " + call, x.set(2, call % 21), call == 2 ? 4 : (call - 1) % 21);
        }
        due("end(3), the call 508", x.end(3), 0);
        due("buy(2), the call 509", x.buy(2), 2);
        due("patch(0), the call 510", x.patch(0), 5);
        due("collect(0), the call 511", x.collect(0), 507 % 21 + 6);
        due("undo(), the call 512", x.undo(), 3);
    }

    // ---- "Terms"

    private static void numbers() {
        says("All divisions are rounded down.");
        BellowsRound x = market(1);
        due("smithyOf(0, 3) with a wear of 5", x.smithyOf(0, 3), 0);
        due("mend(0, 0, 3) with a wear of 5", x.mend(0, 0, 3), 1);
        due("patch(0) with a wear of 5", x.patch(0), 1);
        x.set(0, 99);
        x.end(2);
        due("smithyOf(0, 2), the size 9 divided by 2", x.smithyOf(0, 2), 1 + 2 * 5);
        due("collect(0), half of 7", x.collect(0), 3);

        says("Days are counted from 0.");
        x = new BellowsRound();
        due("count(1)", x.count(1), 0);
        x.end(1);
        due("count(1) behind a day", x.count(1), 1);

        says("Sets of smithies are told as bits: bit k is for the smithy k.");
        for (int k = 0; k < 8; k++) {
            x = new BellowsRound();
            for (int i = 0; i < 8; i++) {
                x.smithy(0, i == k ? 9 : 1);
            }
            x.end(12);
            due("count(9), the smithy " + k + " alone being cold", x.count(9), 1 << k);
            due("round(1 << " + k + ", 1)", x.round(1 << k, 1), 6);
            due("round(all others, 1)", x.round(255 - (1 << k), 1), 7 * 2);
        }
        x = road(0, 9, 0, 1, 0, 9);
        x.end(12);
        due("count(9)", x.count(9), 1 + 4);
    }

    // ---- "Smithies"

    private static void smithies() {
        says("There are at most 8 smithies, numbered from 0 in the order in which they came");
        BellowsRound x = new BellowsRound();
        for (int i = 0; i < 8; i++) {
            due("smithy(" + (70 - 9 * i) + ", 1)", x.smithy(70 - 9 * i, 1), i);
        }
        for (int i = 0; i < 8; i++) {
            due("smithyOf(" + i + ", 0)", x.smithyOf(i, 0), 70 - 9 * i);
        }
        due("smithy(0, 1), the ninth", x.smithy(0, 1), LIMIT);
        due("count(0)", x.count(0), 8);
        due("smithyOf(8, 0)", x.smithyOf(8, 0), INVALID);

        says("each at a mile of the road (0 to 99)");
        x = new BellowsRound();
        due("smithy(-1, 5)", x.smithy(-1, 5), INVALID);
        due("smithy(100, 5)", x.smithy(100, 5), INVALID);
        due("smithy(0, 5)", x.smithy(0, 5), 0);
        due("smithy(99, 5)", x.smithy(99, 5), 1);
        due("smithyOf(0, 0)", x.smithyOf(0, 0), 0);
        due("smithyOf(1, 0)", x.smithyOf(1, 0), 99);

        says("with bellows of a size (1 to 9)");
        x = new BellowsRound();
        due("smithy(5, 0)", x.smithy(5, 0), INVALID);
        due("smithy(5, 10)", x.smithy(5, 10), INVALID);
        due("smithy(5, 1)", x.smithy(5, 1), 0);
        due("smithy(5, 9)", x.smithy(5, 9), 1);
        due("smithyOf(0, 1)", x.smithyOf(0, 1), 1);
        due("smithyOf(1, 1)", x.smithyOf(1, 1), 9);

        says("The bellows have a wear (0 to 100; 0 at first)");
        x = road(0, 9);
        due("smithyOf(0, 2)", x.smithyOf(0, 2), 0);
        dueFirstOfSmithyAnew(2, 0);
        x.end(7);
        x.smithy(0, 9);
        due("smithyOf(1, 2) of one that came later", x.smithyOf(1, 2), 0);
        x.end(99);
        due("smithyOf(0, 2) behind 106 days", x.smithyOf(0, 2), 100);
        due("smithyOf(1, 2) behind 99 days", x.smithyOf(1, 2), 100);

        says("the leak is the wear divided by 10");
        int[] wears = {0, 1, 9, 10, 19, 20, 99, 100};
        int[] leaks = {0, 0, 0, 1, 1, 2, 9, 10};
        for (int i = 0; i < wears.length; i++) {
            x = road(0, 1);
            endDays(x, wears[i]);
            due("smithyOf(0, 2)", x.smithyOf(0, 2), wears[i]);
            due("smithyOf(0, 3) with a wear of " + wears[i], x.smithyOf(0, 3), leaks[i]);
        }
    }

    /** The first value of a smithy that comes where another one, with other numbers, has been undone. */
    private static void dueFirstOfSmithyAnew(int what, int first) {
        BellowsRound x = road(0, 9);
        // Tried by fault(), done by play(), and undone, so that every row that is kept has held the other smithy.
        type(x, "b99;d14;h0;c0;d13;");
        due("fault(0)", x.fault(0), NOT_FOUND);
        x.play();
        x.fault(0);
        x.undo();
        x.undo();
        x.smithy(0, 9);
        due("smithyOf(0, " + what + ") of one that comes where another one is undone", x.smithyOf(0, what), first);
    }

    private static void hearths() {
        says("A hearth has heat (0 to 100; 100 at first)");
        BellowsRound x = road(0, 9);
        due("smithyOf(0, 4)", x.smithyOf(0, 4), 100);
        dueFirstOfSmithyAnew(4, 100);
        x.end(1);
        due("smithyOf(0, 4) behind a day without a leak", x.smithyOf(0, 4), 100);
        x.smithy(0, 9);
        x.end(99);
        due("smithyOf(0, 4) behind 100 days", x.smithyOf(0, 4), 0);
        x.smithy(0, 1);
        due("smithyOf(2, 4) of one that came later", x.smithyOf(2, 4), 100);

        says("it is cold if its heat is below setting 0");
        x = market(11);
        due("smithyOf(0, 4)", x.smithyOf(0, 4), 40);
        int[] colds = {1, 39, 40, 41, 99};
        for (int cold : colds) {
            x.set(0, cold);
            int isCold = cold > 40 ? 1 : 0;
            due("smithyOf(0, 5) with the cold " + cold, x.smithyOf(0, 5), isCold);
            due("count(9) with the cold " + cold, x.count(9), isCold);
            due("coldIn(0) with the cold " + cold, x.coldIn(0) == 0 ? 1 : 0, isCold);
        }
    }

    private static void coldDays() {
        says("How long it has been cold is the number of days at whose ends it was cold");
        BellowsRound x = road(0, 9);
        due("smithyOf(0, 6) of one that has just come", x.smithyOf(0, 6), 0);
        dueFirstOfSmithyAnew(6, 0);
        x = market(11);
        due("smithyOf(0, 6)", x.smithyOf(0, 6), 0);
        for (int days = 1; days <= 4; days++) {
            x.end(1);
            due("smithyOf(0, 6)", x.smithyOf(0, 6), days);
        }
        x = market(11);
        x.set(0, 99);
        due("smithyOf(0, 6), cold by the setting, but at no day's end", x.smithyOf(0, 6), 0);
        x.set(0, 30);
        x.end(3);
        x.set(0, 1);
        due("smithyOf(0, 6), warm by the setting, but it was cold at three days' ends", x.smithyOf(0, 6), 3);

        says("one behind another, up to the latest day");
        x = market(13);
        due("smithyOf(0, 6)", x.smithyOf(0, 6), 2);
        x.set(0, 1);
        x.end(1);
        due("smithyOf(0, 4)", x.smithyOf(0, 4), 2);
        due("smithyOf(0, 6) behind a warm end", x.smithyOf(0, 6), 0);
        x.set(0, 30);
        x.end(1);
        due("smithyOf(0, 6) behind a cold end", x.smithyOf(0, 6), 1);
        due("count(10)", x.count(10), 2);
        x.smithy(0, 9);
        x.end(1);
        due("smithyOf(0, 6)", x.smithyOf(0, 6), 2);
        due("smithyOf(1, 6)", x.smithyOf(1, 6), 0);
    }

    private static void daysThatEnd() {
        says("When a day ends, the wear of all bellows grows by their size divided by 2, and 1 more");
        int[] growth = {1, 2, 2, 3, 3, 4, 4, 5, 5};
        for (int size = 1; size <= 9; size++) {
            BellowsRound x = road(0, 1, 99, size);
            x.end(1);
            due("smithyOf(0, 2)", x.smithyOf(0, 2), 1);
            due("smithyOf(1, 2) of the size " + size, x.smithyOf(1, 2), growth[size - 1]);
            x.end(3);
            due("smithyOf(1, 2) of the size " + size, x.smithyOf(1, 2), 4 * growth[size - 1]);
        }

        says("up to 100");
        int[] daysTo100 = {100, 50, 50, 34, 34, 25, 25, 20, 20};
        for (int size = 1; size <= 9; size++) {
            BellowsRound x = road(0, size);
            endDays(x, daysTo100[size - 1] - 1);
            due("smithyOf(0, 2) of the size " + size, x.smithyOf(0, 2), growth[size - 1] * (daysTo100[size - 1] - 1));
            x.end(1);
            due("smithyOf(0, 2) of the size " + size, x.smithyOf(0, 2), 100);
            x.end(1);
            due("smithyOf(0, 2) of the size " + size, x.smithyOf(0, 2), 100);
            due("smithyOf(0, 3) of the size " + size, x.smithyOf(0, 3), 10);
        }
    }

    private static void heatOfDays() {
        says("then (by the wear as it has grown) the heat of each hearth becomes less by its leak times 2");
        BellowsRound x = road(0, 9, 0, 1);
        int[] heats = {100, 98, 96, 92, 88, 82, 76, 68, 60, 50, 40, 28, 16, 2};
        for (int day = 1; day <= heats.length; day++) {
            x.end(1);
            due("smithyOf(0, 4) on day " + day, x.smithyOf(0, 4), heats[day - 1]);
            due("smithyOf(1, 4) on day " + day, x.smithyOf(1, 4), day < 10 ? 100 : 100 - 2 * (day - 9));
        }

        says("0 at least");
        x.end(1);
        due("smithyOf(0, 4), 2 less 14", x.smithyOf(0, 4), 0);
        x.end(99);
        due("smithyOf(0, 4)", x.smithyOf(0, 4), 0);
        due("smithyOf(1, 4)", x.smithyOf(1, 4), 0);

        says("or, if the leak is 0, it becomes greater by 10");
        x = market(12);
        x.hide(0);
        x.end(1);
        due("smithyOf(0, 4), 28 and 10", x.smithyOf(0, 4), 38);
        x = market(5);
        x.hide(0);
        x.end(1);
        due("smithyOf(0, 4), 88 and 10", x.smithyOf(0, 4), 98);
        x.end(1);
        due("smithyOf(0, 4), 98 with a wear of 10", x.smithyOf(0, 4), 96);
        x = road(0, 4);
        x.buy(100);
        // wears of 12 and, by patches, 4: behind the next days 7 and 10
        x.end(4);
        x.patch(0);
        x.end(1);
        due("smithyOf(0, 4) with a wear of 7", x.smithyOf(0, 4), 100);
        x.end(1);
        due("smithyOf(0, 4) with a wear of 10", x.smithyOf(0, 4), 98);

        says("up to 100");
        x = market(4);
        x.hide(0);
        x.end(1);
        due("smithyOf(0, 4), 92 and 10", x.smithyOf(0, 4), 100);
        x = road(0, 1);
        x.end(9);
        due("smithyOf(0, 4) behind nine days without a leak", x.smithyOf(0, 4), 100);
    }

    // ---- "The mender"

    private static void mender() {
        says("The mender is at a mile (0 at first)");
        BellowsRound x = new BellowsRound();
        due("count(2)", x.count(2), 0);
        due("walk(99)", x.walk(99), 0);
        due("count(2)", x.count(2), 99);
        x.end(1);
        due("count(2) behind a day", x.count(2), 99);

        says("and has leather (0 to 999; 0 at first)");
        x = new BellowsRound();
        due("count(4)", x.count(4), 0);
        due("buy(999)", x.buy(999), 999);
        due("buy(1)", x.buy(1), LIMIT);
        due("count(4)", x.count(4), 999);

        says("money (which may be below 0; 100 at first)");
        x = new BellowsRound();
        due("count(5)", x.count(5), 100);
        x.buy(50);
        due("count(5)", x.count(5), 0);
        due("buy(1) without money", x.buy(1), 51);
        due("count(5)", x.count(5), -2);
        due("buy(948)", x.buy(948), 999);
        due("count(5)", x.count(5), 100 - 2 * 999);

        says("and hours left on the day (setting 1 at first, and anew each day)");
        x = new BellowsRound();
        due("count(3)", x.count(3), 10);
        x.walk(45);
        due("count(3)", x.count(3), 5);
        x.end(1);
        due("count(3) on the next day", x.count(3), 10);
        x.end(9);
        due("count(3), hours that were not used are gone", x.count(3), 10);
        x.set(1, 1);
        x.end(1);
        due("count(3)", x.count(3), 1);
        x.set(1, 24);
        x.end(99);
        due("count(3)", x.count(3), 24);
    }

    private static void waysAndMarket() {
        says("To walk takes an hour for each 10 miles that are begun.");
        int[] miles = {0, 1, 9, 10, 11, 19, 20, 21, 89, 90, 91, 99};
        int[] hours = {0, 1, 1, 1, 2, 2, 2, 3, 9, 9, 10, 10};
        for (int i = 0; i < miles.length; i++) {
            BellowsRound x = new BellowsRound();
            due("walk(" + miles[i] + ")", x.walk(miles[i]), 10 - hours[i]);
            x = new BellowsRound();
            x.walk(99);
            x.end(1);
            due("walk(99 - " + miles[i] + ") from the mile 99", x.walk(99 - miles[i]), 10 - hours[i]);
        }

        says("Leather is bought at the market, at the mile 0");
        BellowsRound x = new BellowsRound();
        due("buy(1) at the mile 0", x.buy(1), 1);
        x.walk(1);
        due("buy(1) at the mile 1", x.buy(1), NOT_POSSIBLE);
        x.walk(0);
        due("buy(1) at the mile 0", x.buy(1), 2);
        x.end(1);
        x.walk(99);
        due("buy(1) at the mile 99", x.buy(1), NOT_POSSIBLE);

        says("for 2 of money each");
        x = new BellowsRound();
        x.buy(1);
        due("count(5)", x.count(5), 98);
        x.buy(998);
        due("count(5)", x.count(5), 98 - 1996);
    }

    private static void mends() {
        says("A mend by patches takes 1 hour and, for each 10 of wear that are begun, 1 of leather");
        int[] wears = {1, 2, 9, 10, 11, 20, 21, 30, 90, 91, 99, 100};
        int[] leather = {1, 1, 1, 1, 2, 2, 3, 3, 9, 10, 10, 10};
        for (int i = 0; i < wears.length; i++) {
            BellowsRound x = road(0, 1);
            x.buy(50);
            endDays(x, wears[i]);
            due("mend(0, 0, 0)", x.mend(0, 0, 0), 1);
            due("mend(0, 0, 1) with a wear of " + wears[i], x.mend(0, 0, 1), leather[i]);
            x.patch(0);
            due("count(3)", x.count(3), 9);
            due("count(4) behind a mend of " + wears[i], x.count(4), 50 - leather[i]);
        }

        says("the wear becomes a third of what it was");
        int[] thirds = {0, 0, 3, 3, 3, 6, 7, 10, 30, 30, 33, 33};
        for (int i = 0; i < wears.length; i++) {
            BellowsRound x = road(0, 1);
            x.buy(50);
            endDays(x, wears[i]);
            due("patch(0) with a wear of " + wears[i], x.patch(0), thirds[i]);
            due("smithyOf(0, 2)", x.smithyOf(0, 2), thirds[i]);
        }

        says("A mend by a whole hide takes 3 hours and 4 times the size of leather; the wear becomes 0.");
        for (int size = 1; size <= 9; size++) {
            BellowsRound x = road(0, size);
            x.buy(4 * size);
            x.end(25);
            due("mend(0, 1, 0)", x.mend(0, 1, 0), 3);
            due("mend(0, 1, 1) of the size " + size, x.mend(0, 1, 1), 4 * size);
            due("hide(0) of the size " + size, x.hide(0), 3 * 4 + 3 * 4 * size);
            due("count(3)", x.count(3), 7);
            due("count(4)", x.count(4), 0);
            due("smithyOf(0, 2)", x.smithyOf(0, 2), 0);
        }
    }

    private static void debts() {
        says("The smithy pays setting 2 for each hour of the mend, and 3 for each leather");
        int[] rates = {0, 1, 20};
        for (int rate : rates) {
            BellowsRound x = market(3);
            x.set(2, rate);
            due("mend(0, 0, 2) at the rate " + rate, x.mend(0, 0, 2), rate + 6);
            due("mend(0, 1, 2) at the rate " + rate, x.mend(0, 1, 2), 3 * rate + 108);
            x.patch(0);
            due("smithyOf(0, 7) at the rate " + rate, x.smithyOf(0, 7), rate + 6);
            due("hide(0) at the rate " + rate, x.hide(0), 4 * rate + 114);
        }

        says("it is owed to the mender at once, and becomes a debt");
        due("smithyOf(0, 7) of one that has just come", road(0, 9).smithyOf(0, 7), 0);
        dueFirstOfSmithyAnew(7, 0);
        dueFirstOfSmithyAnew(8, 0);
        dueFirstOfSmithyAnew(9, 0);
        BellowsRound x = market(3);
        int money = x.count(5);
        x.patch(0);
        due("count(8)", x.count(8), 10);
        due("smithyOf(0, 7)", x.smithyOf(0, 7), 10);
        due("count(6)", x.count(6), 10);
        due("count(5), nothing is paid yet", x.count(5), money);
        due("smithyOf(0, 8)", x.smithyOf(0, 8), 0);

        says("A smithy whose debt is above setting 3 is not mended any more.");
        x = market(1);
        x.patch(0);
        x.end(1);
        due("smithyOf(0, 7)", x.smithyOf(0, 7), 7);
        x.set(3, 6);
        due("patch(0) with a debt of 7 and the patience 6", x.patch(0), NOT_POSSIBLE);
        due("hide(0) with a debt of 7 and the patience 6", x.hide(0), NOT_POSSIBLE);
        x.set(3, 7);
        due("patch(0) with a debt of 7 and the patience 7", x.patch(0), 2);
        x = market(1);
        x.set(3, 0);
        due("patch(0) without debt and the patience 0", x.patch(0), 1);
        due("patch(0) with a debt and the patience 0", x.patch(0), NOT_POSSIBLE);
        x.collect(0);
        due("patch(0) with the debt paid", x.patch(0), 0);
    }

    private static void collecting() {
        says("When the mender collects at a smithy, it pays its debt");
        BellowsRound x = market(3);
        int money = x.count(5);
        x.patch(0);
        due("collect(0), warm", x.collect(0), 10);
        due("smithyOf(0, 7)", x.smithyOf(0, 7), 0);
        due("smithyOf(0, 8)", x.smithyOf(0, 8), 10);
        due("count(5)", x.count(5), money + 10);

        says("or, if its hearth is cold, half of it");
        x = market(3);
        x.patch(0);
        x.set(0, 96);
        due("smithyOf(0, 4)", x.smithyOf(0, 4), 96);
        due("collect(0) with a heat of 96 and the cold 96", x.collect(0), 10);
        x = market(3);
        money = x.count(5);
        x.patch(0);
        x.set(0, 97);
        due("collect(0) of 10, with a heat of 96 and the cold 97", x.collect(0), 5);
        due("smithyOf(0, 8)", x.smithyOf(0, 8), 5);
        due("count(5)", x.count(5), money + 5);

        says("what is not paid is still owed");
        due("smithyOf(0, 7)", x.smithyOf(0, 7), 5);
        due("collect(0) of 5, cold", x.collect(0), 2);
        due("collect(0) of 3, cold", x.collect(0), 1);
        due("collect(0) of 2, cold", x.collect(0), 1);
        due("collect(0) of 1, cold", x.collect(0), 0);
        due("smithyOf(0, 7)", x.smithyOf(0, 7), 1);
        due("count(6)", x.count(6), 1);
        due("count(8), what was owed stays told", x.count(8), 10);
    }

    // ---- "Settings"

    private static void settings() {
        range(0, "0 the cold (1 to 99; 30)", 1, 99, 30);
        range(1, "1 the hours (1 to 24; 10)", 1, 24, 10);
        range(2, "2 the rate (0 to 20; 4)", 0, 20, 4);
        range(3, "3 the patience (0 to 500; 60)", 0, 500, 60);

        says("A day that is going on keeps the hours that it has.");
        BellowsRound x = new BellowsRound();
        x.set(1, 1);
        due("count(3) behind set(1, 1)", x.count(3), 10);
        due("walk(90)", x.walk(90), 1);
        x.set(1, 24);
        due("count(3) behind set(1, 24)", x.count(3), 1);
        due("walk(0)", x.walk(0), NOT_POSSIBLE);
        x.end(1);
        due("count(3) on the next day", x.count(3), 24);
    }

    private static void range(int what, String words, int least, int most, int first) {
        says(words);
        BellowsRound x = new BellowsRound();
        due("count(" + (20 + what) + ")", x.count(20 + what), first);
        due("set(" + what + ", " + (least - 1) + ")", x.set(what, least - 1), INVALID);
        due("set(" + what + ", " + (most + 1) + ")", x.set(what, most + 1), INVALID);
        due("count(" + (20 + what) + ")", x.count(20 + what), first);
        due("set(" + what + ", " + least + ")", x.set(what, least), first);
        due("count(" + (20 + what) + ")", x.count(20 + what), least);
        due("set(" + what + ", " + most + ")", x.set(what, most), least);
        due("count(" + (20 + what) + ")", x.count(20 + what), most);
    }

    // ---- "Texts"

    private static void formOfTexts() {
        says("There is a text of at most 60 characters, initially empty");
        BellowsRound x = new BellowsRound();
        due("count(13)", x.count(13), 0);
        for (int i = 1; i <= 60; i++) {
            due("type(';'), the character " + i, x.type(';'), i);
        }
        due("type(';'), the 61st", x.type(';'), LIMIT);
        due("count(13)", x.count(13), 60);

        says("orders, each followed by \";\"");
        dueNoFault("b1;");
        dueNoFault("b1;b2;");
        dueFault("b1", 0, 1, 2);
        dueFault("b1;b2", 3, 1, 2);
        dueFault("b1b2;", 0, 1, 2);
        dueFault("b1;;", 3, 1, 0);

        says("\"w\" a mile (the mender walks there), \"b\" leather (bought), \"p\" a smithy (mended by patches), "
                + "\"h\" a smithy (mended by a hide), \"c\" a smithy (collected) or \"d\" days (they end)");
        for (char letter = 32; letter <= 126; letter++) {
            x = withText(letter + "1;");
            due("fault(2) of " + letter + "1;", x.fault(2), causeOfLetter(letter));
        }
        eachOrder();
    }

    private static void numbersInTexts() {
        says("numbers of 1 to 3 digits");
        dueFault("d;", 0, 1, 1);
        dueNoFault("d1;");
        dueNoFault("d12;");
        dueFault("d123;", 0, 2, INVALID);
        dueFault("d1234;", 0, 1, 4);
        for (char other = 32; other <= 126; other++) {
            boolean digit = other >= '0' && other <= '9';
            dueFault("b" + other, 0, 1, digit ? 2 : 1);
            if (!digit && other != ';') {
                dueFault("b1" + other + ";", 0, 1, 2);
                dueFault("b12" + other + ";", 0, 1, 3);
            }
            if (other != ';') {
                dueFault("b123" + other + ";", 0, 1, 4);
            }
        }
        BellowsRound x = withText("b109;b008;b29;b36;b47;b5;");
        due("play() of b109;b008;b29;b36;b47;b5;", x.play(), 6);
        due("count(4)", x.count(4), 109 + 8 + 29 + 36 + 47 + 5);

        says("0 ahead allowed");
        dueNoFault("w0;w00;w000;");
        dueNoFault("d01;d001;d099;");
        dueFault("b0;", 0, 2, INVALID);
        dueFault("b000;", 0, 2, INVALID);
        dueFault("b0001;", 0, 1, 4);
        x = withText("w007;");
        x.play();
        due("count(2) behind w007;", x.count(2), 7);
    }

    private static int causeOfLetter(char letter) {
        switch (letter) {
            case 'w':
            case 'b':
            case 'd':
                return NOT_FOUND;
            case 'p':
            case 'h':
            case 'c':
                return INVALID;
            default:
                return 0;
        }
    }

    private static void eachOrder() {
        BellowsRound x = withText("w12;");
        due("play() of w12;", x.play(), 1);
        due("count(2)", x.count(2), 12);
        x = withText("b34;");
        due("play() of b34;", x.play(), 1);
        due("count(4)", x.count(4), 34);
        x = market(11);
        type(x, "p0;");
        due("play() of p0;", x.play(), 1);
        due("smithyOf(0, 2)", x.smithyOf(0, 2), 18);
        x.clearText();
        type(x, "c0;");
        due("play() of c0;", x.play(), 1);
        due("smithyOf(0, 8)", x.smithyOf(0, 8), 4 + 18);
        x.clearText();
        type(x, "h0;");
        due("play() of h0;", x.play(), 1);
        due("smithyOf(0, 2)", x.smithyOf(0, 2), 0);
        due("smithyOf(0, 7)", x.smithyOf(0, 7), 12 + 108);
        x = withText("d56;");
        due("play() of d56;", x.play(), 1);
        due("count(1)", x.count(1), 56);
    }

    private static void faultsOfTexts() {
        says("The fault of the text is the position, from 0, of the first character of the first order that is not possible");
        dueFault("x", 0, 1, 0);
        dueFault("b1;x", 3, 1, 0);
        dueFault("b1;w99;w98;x", 7, 2, NOT_POSSIBLE);
        dueFault("b1;x1;w100;", 3, 1, 0);
        dueFault("b1;w100;x1;", 3, 2, INVALID);
        dueFault("b1;b1;b1;b1;b1;b1;b1;b1;b1;b1;b1;b1;b1;b1;b1;b1;b1;b1;b1;c9;", 57, 2, INVALID);

        says("its reason is 1 if it is not of this form, its \";\" included");
        dueFault("w100", 0, 1, 4);
        dueFault("w999x", 0, 1, 4);
        dueFault("p9", 0, 1, 2);
        dueFault("b1;d0", 3, 1, 2);

        says("and otherwise 2, when those ahead of it are done");
        dueFault("w100;", 0, 2, INVALID);
        dueNoFault("w10;w0;b1;");
        dueFault("w10;b1;", 4, 2, NOT_POSSIBLE);
        dueNoFault("b999;");
        dueFault("b1;b999;", 3, 2, LIMIT);
        dueNoFault("w99;d1;w0;");
        dueFault("w99;w0;", 4, 2, NOT_POSSIBLE);
        BellowsRound x = road(0, 9);
        type(x, "b1;d1;p0;");
        due("fault(0) of b1;d1;p0;", x.fault(0), NOT_FOUND);
        x.clearText();
        type(x, "b1;p0;d1;");
        due("fault(0) of b1;p0;d1;", x.fault(0), 3);
    }

    private static void causesOfFaults() {
        says("its cause is with the reason 1 at which character of the order, from 0, it breaks off");
        dueFault("b7;X1;", 3, 1, 0);
        dueFault("b7;wx;", 3, 1, 1);
        dueFault("b7;w1x;", 3, 1, 2);
        dueFault("b7;w12x;", 3, 1, 3);
        dueFault("b7;w123x;", 3, 1, 4);
        dueFault("b7;w1234;", 3, 1, 4);
        BellowsRound x = new BellowsRound();
        dueFault(x, "w123x;", 0, 1, 4);
        dueFault(x, "x", 0, 1, 0);
        dueFault(x, "w1x;", 0, 1, 2);

        says("(of one that the text ends too early it is its length)");
        dueFault("b7;w", 3, 1, 1);
        dueFault("b7;w1", 3, 1, 2);
        dueFault("b7;w12", 3, 1, 3);
        dueFault("b7;w123", 3, 1, 4);
        dueFault("b1;b1;b1;b1;b1;b1;b1;b1;b1;b1;b1;b1;b1;b1;b1;b1;b1;b1;b1;b12", 57, 1, 3);

        x = new BellowsRound();
        dueFault(x, "b12;b3;", NOT_FOUND, NOT_FOUND, NOT_FOUND);
        dueFault(x, "b12", 0, 1, 3);
        dueFault(x, "b1", 0, 1, 2);
        dueFault(x, "b", 0, 1, 1);
        dueFault(x, "b12;", NOT_FOUND, NOT_FOUND, NOT_FOUND);

        says("and with the reason 2 the error code that the call returns for it");
        dueFault("w100;", 0, 2, INVALID);
        dueFault("b0;", 0, 2, INVALID);
        dueFault("p0;", 0, 2, INVALID);
        dueFault("h0;", 0, 2, INVALID);
        dueFault("c0;", 0, 2, INVALID);
        dueFault("d0;", 0, 2, INVALID);
        dueFault("d100;", 0, 2, INVALID);
        dueFault("w99;w89;", 4, 2, NOT_POSSIBLE);
        dueFault("w1;b1;", 3, 2, NOT_POSSIBLE);
        dueFault("b999;b1;", 5, 2, LIMIT);
        x = road(0, 9);
        type(x, "d1;c0;");
        due("fault(2) of d1;c0;", x.fault(2), NOT_POSSIBLE);
        x.clearText();
        type(x, "d1;h0;");
        due("fault(2) of d1;h0;", x.fault(2), NOT_POSSIBLE);
        endDays(x, 99 * 101 - 1);
        x.clearText();
        type(x, "d1;d1;");
        due("fault(0) of d1;d1; on day 9998", x.fault(0), 3);
        due("fault(2) of d1;d1; on day 9998", x.fault(2), LIMIT);
    }

    // ---- "Changes and errors"

    private static final String[] CHANGES = {"smithy 9 9", "walk 9", "buy 9", "patch 0", "hide 0", "collect 0", "end 9",
        "set 0 9", "play"};

    /** A smithy at the market with wear, debt and a cold hearth, and a history of two states; each change is possible. */
    private static BellowsRound ready() {
        BellowsRound x = withText("b99;d12;p0;d1;");
        x.smithy(0, 9);
        x.play();
        x.clearText();
        type(x, "c0;b1;w9;d9;");
        return x;
    }

    private static void changes() {
        says("The changes are the calls of smithy, walk, buy, patch, hide, collect, end, set and play");
        for (String change : CHANGES) {
            BellowsRound x = ready();
            due("count(12)", x.count(12), 2);
            due(change + " without an error", call(x, change) >= 0 ? 1 : 0, 1);
            due("count(12) behind " + change, x.count(12), 3);
        }
        BellowsRound x = ready();
        x.walk(0);
        due("count(12) behind a walk of no miles", x.count(12), 3);
        x.set(0, 30);
        due("count(12) behind set() of what it was", x.count(12), 4);
        x = new BellowsRound();
        x.play();
        due("count(12) behind play() of no orders", x.count(12), 1);
        String[] others = {"smithyOf 0 2", "why 0 0", "mend 0 1 2", "coldIn 0", "next", "round 1 0", "mean", "count 5", "type 59",
            "fault 0", "clearText"};
        x = ready();
        String before = numbers(x);
        for (String other : others) {
            call(x, other);
            due("count(12) behind " + other, x.count(12), 2);
        }
        dueNumbers("behind all other calls", x, before);

        says("that return no error");
        String[] refused = {"smithy 0 0", "walk 100", "buy 907", "patch 1", "hide 1", "collect 1", "end 100", "set 0 0"};
        for (String words : refused) {
            x = ready();
            due(words + " with an error", call(x, words) < 0 ? 1 : 0, 1);
            due("count(12) behind " + words, x.count(12), 2);
        }
        x = ready();
        x.type('x');
        due("play() with a fault", x.play(), NOT_POSSIBLE);
        due("count(12) behind play() with a fault", x.count(12), 2);
    }

    private static void history() {
        says("A history of at most 4 states is kept");
        BellowsRound x = new BellowsRound();
        due("count(12)", x.count(12), 0);
        for (int i = 1; i <= 9; i++) {
            x.buy(1);
            due("count(12) behind " + i + " changes", x.count(12), Math.min(4, i));
        }

        says("each change records everything before it");
        for (String change : CHANGES) {
            x = ready();
            String before = numbers(x);
            call(x, change);
            due(change + " changes a number", numbers(x).equals(before) ? 0 : 1, 1);
            due("undo() of " + change, x.undo(), 2);
            dueNumbers("behind undo() of " + change, x, before);
        }

        says("but the text");
        x = withText("b5;");
        x.play();
        x.clearText();
        type(x, "w33;x");
        due("undo()", x.undo(), 0);
        due("count(4)", x.count(4), 0);
        due("count(13), that of w33;x", x.count(13), 5);
        due("fault(0) of w33;x", x.fault(0), 4);

        says("and if there are 5 states then, the oldest one is dropped");
        x = new BellowsRound();
        for (int i = 0; i < 5; i++) {
            x.buy(1);
        }
        due("count(12)", x.count(12), 4);
        for (int left = 3; left >= 0; left--) {
            due("undo()", x.undo(), left);
            due("count(4)", x.count(4), 1 + left);
        }
        due("undo() of the state that was dropped", x.undo(), NOT_POSSIBLE);
        due("count(4)", x.count(4), 1);
    }

    private static void errors() {
        says("INVALID_ARGUMENT is returned rather than NOT_POSSIBLE");
        BellowsRound x = behind("smithy 5 9", "walk 99");
        due("buy(0) away from the market", x.buy(0), INVALID);
        due("buy(1000) away from the market", x.buy(1000), INVALID);
        due("walk(100) without hours", x.walk(100), INVALID);
        due("walk(-1) without hours", x.walk(-1), INVALID);
        due("patch(1), not there", x.patch(1), INVALID);
        due("hide(1), not there", x.hide(1), INVALID);
        due("collect(1), not there", x.collect(1), INVALID);

        says("(INVALID_ARGUMENT rather than LIMIT_REACHED)");
        x = behind("smithy 0 9", "smithy 0 9", "smithy 0 9", "smithy 0 9", "smithy 0 9", "smithy 0 9", "smithy 0 9",
                "smithy 0 9", "buy 999");
        due("smithy(100, 9), the ninth", x.smithy(100, 9), INVALID);
        due("smithy(0, 0), the ninth", x.smithy(0, 0), INVALID);
        due("buy(1000) above 999", x.buy(1000), INVALID);
        endDays(x, 9999);
        due("end(100) on the last day", x.end(100), INVALID);
        due("end(0) on the last day", x.end(0), INVALID);
        x = withText("000000000000000000000000000000000000000000000000000000000000");
        due("type(31), the 61st", x.type(31), INVALID);
        due("type(127), the 61st", x.type(127), INVALID);

        says("NOT_POSSIBLE rather than LIMIT_REACHED");
        x = behind("buy 999", "walk 1");
        due("buy(1) above 999, away from the market", x.buy(1), NOT_POSSIBLE);

        // No call has both LIMIT_REACHED and NOT_FOUND, so that only INVALID_ARGUMENT stands against NOT_FOUND.
        says("(INVALID_ARGUMENT rather than NOT_FOUND)");
        x = new BellowsRound();
        due("fault(3) without a fault", x.fault(3), INVALID);
        due("fault(-1) without a fault", x.fault(-1), INVALID);
        due("coldIn(0) on an empty road", x.coldIn(0), INVALID);
    }

    private static void noSuchSmithy() {
        says("If there is no smithy with a certain number, this is INVALID_ARGUMENT.");
        String[] calls = {"patch N", "hide N", "collect N", "smithyOf N 0", "why N 0", "mend N 0 0", "coldIn N"};
        String[] numbers = {"-2147483648", "-1", "1", "2", "7", "8", "32", "2147483647"};
        for (String words : calls) {
            for (String number : numbers) {
                due(words + ", " + number, call(ready(), words.replace("N", number)), INVALID);
            }
            due(words + ", 0 on an empty road", call(new BellowsRound(), words.replace("N", "0")), INVALID);
        }
        due("round(2, 0)", ready().round(2, 0), INVALID);
        due("round(3, 0)", ready().round(3, 0), INVALID);
        dueFault("p0;", 0, 2, INVALID);
        dueFault("h0;", 0, 2, INVALID);
        dueFault("c0;", 0, 2, INVALID);

        says("The constants");
        due("INVALID_ARGUMENT", BellowsRound.INVALID_ARGUMENT, -1000000001);
        due("NOT_POSSIBLE", BellowsRound.NOT_POSSIBLE, -1000000002);
        due("LIMIT_REACHED", BellowsRound.LIMIT_REACHED, -1000000003);
        due("NOT_FOUND", BellowsRound.NOT_FOUND, -1000000004);
    }

    private static void errorsChangeNothing() {
        says("A call that returns an error changes nothing.");
        String[] invalid = {"smithy 100 1", "smithy -1 1", "smithy 9 0", "smithy 9 10", "walk 100", "walk -1", "buy 0", "buy 1000",
            "patch 1", "patch -1", "hide 1", "hide -1", "collect 1", "collect -1", "end 0", "end 100", "set 0 0", "set 0 100",
            "set 1 0", "set 1 25", "set 2 -1", "set 2 21", "set 3 -1", "set 3 501", "set 4 9", "set -1 9", "smithyOf 0 11",
            "why 0 2", "mend 0 2 0", "mend 0 0 4", "coldIn 1", "round 0 0", "round 2 0", "round 1 3", "count 14", "type 31",
            "type 127", "fault 3"};
        for (String words : invalid) {
            dueRefused(ready(), words, INVALID);
        }
        BellowsRound x = ready();
        x.walk(91);
        String[] away = {"walk 80", "buy 1", "patch 0", "hide 0", "collect 0", "play"};
        for (String words : away) {
            dueRefused(x, words, NOT_POSSIBLE);
        }
        x = ready();
        x.set(3, 0);
        dueRefused(x, "patch 0", NOT_POSSIBLE);
        dueRefused(x, "hide 0", NOT_POSSIBLE);
        x.type('w');
        dueRefused(x, "play", NOT_POSSIBLE);
        dueRefused(new BellowsRound(), "undo", NOT_POSSIBLE);
        dueRefused(behind("smithy 0 9", "end 1"), "collect 0", NOT_POSSIBLE);

        dueRefused(ready(), "buy 907", LIMIT);
        x = new BellowsRound();
        for (int i = 0; i < 8; i++) {
            x.smithy(i, 1);
        }
        dueRefused(x, "smithy 8 1", LIMIT);
        x = withText("b1;b1;b1;b1;b1;b1;b1;b1;b1;b1;b1;b1;b1;b1;b1;b1;b1;b1;b1;b1;");
        dueRefused(x, "type 59", LIMIT);
        x = ready();
        endDays(x, 9980);
        dueRefused(x, "end 7", LIMIT);
        dueRefused(x, "end 99", LIMIT);

        dueRefused(behind("smithy 0 9"), "next", NOT_FOUND);
        dueRefused(new BellowsRound(), "mean", NOT_FOUND);
        dueRefused(ready(), "fault 0", NOT_FOUND);
    }
}
