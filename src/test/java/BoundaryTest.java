/**
 * Each sentence of the document's "Promise 1" to "Promise 22" that names a boundary case has a test of its own here:
 * too small, too large, empty, full, and the calls that are refused, with what is just not refused beside them.
 */
public final class BoundaryTest extends SentenceChecks {
    public static void main(String[] args) {
        newObject();
        smithy();
        walk();
        buy();
        patch();
        patchRefused();
        hide();
        hideRefused();
        collect();
        end();
        set();
        smithyOf();
        smithyOfBellows();
        smithyOfCold();
        smithyOfAccount();
        smithyOfWay();
        why();
        whyOfMender();
        whyOfSmithy();
        whyFirstReason();
        mend();
        mendNumbers();
        mendPossibleOrNot();
        coldIn();
        coldInOfEverySize();
        next();
        nextOfSeveral();
        round();
        roundOfWalks();
        roundOfMends();
        mean();
        count();
        countMender();
        countAccounts();
        countColdHearths();
        countOthers();
        undo();
        type();
        clearText();
        fault();
        play();
        endWithCode();
    }

    /** A call with one argument is refused for all arguments that are far out of its range, and for these. */
    private static void dueOutOfRange(BellowsRound x, String name, int... outside) {
        for (int argument : outside) {
            dueRefused(x, name + " " + argument, INVALID);
        }
        for (int argument : FAR_OUT) {
            due(x, name + " " + argument, INVALID);
        }
    }

    private static BellowsRound fullRoad() {
        return road(0, 1, 10, 2, 20, 3, 30, 4, 40, 5, 50, 6, 60, 7, 70, 8);
    }

    private static final String FULL_TEXT = "b1;b1;b1;b1;b1;b1;b1;b1;b1;b1;b1;b1;b1;b1;b1;b1;b1;b1;b1;b1;";

    // ---- smithies

    private static void newObject() {
        says("Promise 1: Creates a road without smithies.");
        BellowsRound x = new BellowsRound();
        due(x, "count 0", 0);
        due(x, "smithyOf 0 0", INVALID);
        due(x, "next", NOT_FOUND);
        due(x, "mean", NOT_FOUND);
        due(x, "undo", NOT_POSSIBLE);
        due(x, "fault 0", NOT_FOUND);
        dueNumbers("of a new object", x, "0 0 0 10 0 100 0 0 0 0 0 0 30 10 4 60 ");
        due(x, "count 12", 0);
        due(x, "count 13", 0);
    }

    private static void smithy() {
        says("Promise 2: Adds a smithy. Returns its number");
        BellowsRound x = new BellowsRound();
        for (int number = 0; number < 8; number++) {
            due(x, "smithy 50 5", number);
            due(x, "count 0", number + 1);
        }
        x = behind("smithy 1 1", "smithy 2 2", "undo");
        due(x, "smithy 3 3", 1);
        due(x, "smithyOf 1 0", 3);

        says("Promise 2: mile: 0 to 99; INVALID_ARGUMENT if an argument is out of range");
        x = new BellowsRound();
        dueRefused(x, "smithy -1 5", INVALID);
        dueRefused(x, "smithy 100 5", INVALID);
        for (int mile : FAR_OUT) {
            due(x, "smithy " + mile + " 5", INVALID);
        }
        due(x, "smithy 0 5", 0);
        due(x, "smithy 99 5", 1);

        says("Promise 2: size: 1 to 9; INVALID_ARGUMENT if an argument is out of range");
        x = new BellowsRound();
        dueRefused(x, "smithy 5 0", INVALID);
        dueRefused(x, "smithy 5 10", INVALID);
        for (int size : FAR_OUT) {
            due(x, "smithy 5 " + size, INVALID);
        }
        due(x, "smithy 5 1", 0);
        due(x, "smithy 5 9", 1);

        says("Promise 2: LIMIT_REACHED if there are 8");
        x = fullRoad();
        dueRefused(x, "smithy 80 9", LIMIT);
        due(x, "smithy 100 9", INVALID);
        due(x, "undo", 3);
        due(x, "smithy 80 9", 7);
        dueRefused(x, "smithy 80 9", LIMIT);
    }

    // ---- the mender

    private static void walk() {
        says("Promise 3: mile: 0 to 99; INVALID_ARGUMENT if mile is out of range");
        BellowsRound x = new BellowsRound();
        dueOutOfRange(x, "walk", -1, 100);
        due(x, "walk 99", 0);
        x.end(1);
        due(x, "walk 0", 0);
        dueOutOfRange(x, "walk", -1, 100);

        says("Promise 3: Returns the hours that are left");
        x = new BellowsRound();
        due(x, "walk 0", 10);
        due(x, "walk 10", 9);
        due(x, "walk 21", 7);
        due(x, "walk 20", 6);
        due(x, "count 3", 6);

        says("Promise 3: NOT_POSSIBLE if the hours are not enough");
        x = behind("set 1 9", "end 1");
        dueRefused(x, "walk 91", NOT_POSSIBLE);
        dueRefused(x, "walk 99", NOT_POSSIBLE);
        due(x, "walk 90", 0);
        dueRefused(x, "walk 89", NOT_POSSIBLE);
        dueRefused(x, "walk 91", NOT_POSSIBLE);
        due("walk 90, to where the mender is, without hours", x.walk(90), 0);
        x = behind("set 1 1", "end 1");
        dueRefused(x, "walk 11", NOT_POSSIBLE);
        due(x, "walk 10", 0);
    }

    private static void buy() {
        says("Promise 4: much: 1 to 999; INVALID_ARGUMENT if much is out of range");
        BellowsRound x = new BellowsRound();
        dueOutOfRange(x, "buy", 0, -1, 1000);
        due(x, "buy 1", 1);
        due(behind(), "buy 999", 999);

        says("Promise 4: Buys leather (on credit, too). Returns the leather then");
        x = new BellowsRound();
        due(x, "buy 50", 50);
        due(x, "count 5", 0);
        due(x, "buy 1", 51);
        due(x, "count 5", -2);
        due(x, "buy 900", 951);
        due(x, "count 5", -1802);

        says("Promise 4: NOT_POSSIBLE if the mender is not at the market");
        x = behind("walk 1");
        dueRefused(x, "buy 1", NOT_POSSIBLE);
        dueRefused(x, "buy 999", NOT_POSSIBLE);
        x = behind("buy 999", "walk 99");
        dueRefused(x, "buy 1", NOT_POSSIBLE);

        says("Promise 4: LIMIT_REACHED if it would be above 999");
        x = behind("buy 1");
        dueRefused(x, "buy 999", LIMIT);
        due(x, "buy 998", 999);
        dueRefused(x, "buy 1", LIMIT);
        x = behind("buy 998");
        dueRefused(x, "buy 2", LIMIT);
        due(x, "buy 1", 999);
    }

    private static void patch() {
        says("Promise 5: number of the smithy; INVALID_ARGUMENT");
        BellowsRound x = behind("buy 20", "smithy 0 9", "smithy 0 1", "end 2");
        dueOutOfRange(x, "patch", -1, 2, 8);
        due(new BellowsRound(), "patch 0", INVALID);

        says("Promise 5: Mends by patches. Returns the wear then");
        due(x, "patch 0", 3);
        due(x, "smithyOf 0 2", 3);
        due(x, "patch 1", 0);
        due(x, "smithyOf 1 2", 0);
        due("patch 0 with a wear of 100", worn(x).patch(0), 33);
    }

    private static void patchRefused() {
        says("Promise 5: NOT_POSSIBLE if it cannot be mended so (the mender is not there)");
        BellowsRound x = behind("buy 20", "smithy 5 9", "end 1", "walk 4");
        dueRefused(x, "patch 0", NOT_POSSIBLE);
        x.walk(6);
        dueRefused(x, "patch 0", NOT_POSSIBLE);
        x.walk(5);
        due(x, "patch 0", 1);

        says("Promise 5: NOT_POSSIBLE if it cannot be mended so (the hours are not enough)");
        x = behind("buy 20", "smithy 99 9", "end 1", "walk 99");
        dueRefused(x, "patch 0", NOT_POSSIBLE);
        x = behind("buy 20", "smithy 90 9", "end 1", "walk 90");
        due(x, "patch 0", 1);
        dueRefused(x, "patch 0", NOT_POSSIBLE);

        says("Promise 5: NOT_POSSIBLE if it cannot be mended so (the leather is not enough)");
        x = behind("smithy 0 9", "end 3");
        dueRefused(x, "patch 0", NOT_POSSIBLE);
        x.buy(1);
        dueRefused(x, "patch 0", NOT_POSSIBLE);
        x.buy(1);
        due(x, "patch 0", 5);

        says("Promise 5: NOT_POSSIBLE if it cannot be mended so (its debt is above the patience)");
        x = behind("smithy 0 9", "buy 20", "end 1", "patch 0", "set 3 6");
        dueRefused(x, "patch 0", NOT_POSSIBLE);
        x.set(3, 7);
        due(x, "patch 0", 0);

        says("Promise 5: NOT_POSSIBLE if it cannot be mended so (there is no wear)");
        dueRefused(x, "patch 0", NOT_POSSIBLE);
        dueRefused(behind("smithy 0 9", "buy 20"), "patch 0", NOT_POSSIBLE);
    }

    private static BellowsRound worn(BellowsRound x) {
        x.set(3, 500);
        x.end(99);
        return x;
    }

    private static void hide() {
        says("Promise 6: number of the smithy; INVALID_ARGUMENT");
        BellowsRound x = behind("buy 100", "smithy 0 9", "smithy 0 1", "end 2");
        dueOutOfRange(x, "hide", -1, 2, 8);
        due(new BellowsRound(), "hide 0", INVALID);

        says("Promise 6: Mends by a whole hide. Returns the debt of the smithy then");
        due(x, "hide 1", 24);
        x.end(1);
        due(x, "hide 1", 48);
        due(x, "smithyOf 1 7", 48);
        due(x, "smithyOf 1 2", 0);
        x = behind("buy 36", "smithy 0 9", "set 2 20", "end 99");
        due("hide 0 of the greatest price", x.hide(0), 60 + 108);
        due(x, "smithyOf 0 2", 0);
    }

    private static void hideRefused() {
        says("Promise 6: NOT_POSSIBLE if it cannot be mended so (the mender is not there)");
        BellowsRound x = behind("buy 40", "smithy 5 9", "end 1", "walk 4");
        dueRefused(x, "hide 0", NOT_POSSIBLE);
        x.walk(6);
        dueRefused(x, "hide 0", NOT_POSSIBLE);
        x.walk(5);
        due(x, "hide 0", 120);

        says("Promise 6: NOT_POSSIBLE if it cannot be mended so (the hours are not enough)");
        x = behind("buy 40", "smithy 71 9", "end 1", "walk 71");
        due(x, "count 3", 2);
        dueRefused(x, "hide 0", NOT_POSSIBLE);
        x = behind("buy 40", "smithy 70 9", "end 1", "walk 70");
        due(x, "count 3", 3);
        due(x, "hide 0", 120);

        says("Promise 6: NOT_POSSIBLE if it cannot be mended so (the leather is not enough)");
        x = behind("smithy 0 9", "buy 35", "end 1");
        dueRefused(x, "hide 0", NOT_POSSIBLE);
        x.buy(1);
        due(x, "hide 0", 120);
        x = behind("smithy 0 1", "buy 3", "end 1");
        dueRefused(x, "hide 0", NOT_POSSIBLE);
        x.buy(1);
        due(x, "hide 0", 24);

        says("Promise 6: NOT_POSSIBLE if it cannot be mended so (its debt is above the patience)");
        x = behind("smithy 0 9", "buy 40", "end 1", "patch 0", "set 3 6");
        dueRefused(x, "hide 0", NOT_POSSIBLE);
        x.set(3, 7);
        due(x, "hide 0", 127);

        says("Promise 6: NOT_POSSIBLE if it cannot be mended so (there is no wear)");
        x = behind("smithy 0 9", "buy 80");
        dueRefused(x, "hide 0", NOT_POSSIBLE);
        x.end(1);
        due(x, "hide 0", 120);
        x.set(3, 500);
        dueRefused(x, "hide 0", NOT_POSSIBLE);
    }

    private static void collect() {
        says("Promise 7: number of the smithy; INVALID_ARGUMENT");
        BellowsRound x = behind("smithy 0 9", "buy 40", "end 1", "patch 0");
        dueOutOfRange(x, "collect", -1, 1, 8);
        due(new BellowsRound(), "collect 0", INVALID);

        says("Promise 7: Returns what it pays");
        due(x, "collect 0", 7);
        due(x, "smithyOf 0 8", 7);
        x = behind("smithy 0 9", "buy 40", "end 1", "patch 0", "set 0 99", "end 2");
        due("collect 0 of 7, cold", x.collect(0), 3);
        due("collect 0 of 4, cold", x.collect(0), 2);
        due("collect 0 of 2, cold", x.collect(0), 1);
        due("collect 0 of 1, cold", x.collect(0), 0);
        due(x, "smithyOf 0 8", 6);
        due(x, "smithyOf 0 7", 1);

        says("Promise 7: NOT_POSSIBLE if the mender is not there");
        x = behind("smithy 50 9", "buy 40", "end 1", "walk 50", "patch 0", "walk 49");
        dueRefused(x, "collect 0", NOT_POSSIBLE);
        x.walk(51);
        dueRefused(x, "collect 0", NOT_POSSIBLE);
        x.walk(50);
        due(x, "collect 0", 7);

        says("Promise 7: or it owes nothing");
        dueRefused(x, "collect 0", NOT_POSSIBLE);
        x = behind("smithy 0 9", "buy 40", "end 1", "set 2 0");
        dueRefused(x, "collect 0", NOT_POSSIBLE);
        x.patch(0);
        due(x, "collect 0", 3);
        dueRefused(x, "collect 0", NOT_POSSIBLE);
    }

    private static void end() {
        says("Promise 8: days: 1 to 99; INVALID_ARGUMENT if days is out of range");
        BellowsRound x = road(0, 9);
        dueOutOfRange(x, "end", 0, -1, 100);
        due(x, "end 1", 0);
        due(x, "count 1", 1);
        due(x, "end 99", 1);
        due(x, "count 1", 100);

        says("Promise 8: Returns how many hearths are cold then");
        due(new BellowsRound(), "end 99", 0);
        x = road(0, 9, 0, 1, 0, 8, 0, 5);
        due(x, "end 11", 0);
        due(x, "end 1", 2);
        // the size 5 grows by 3: its heat is 28 on day 17
        due(x, "end 4", 2);
        due(x, "end 1", 3);
        due(x, "end 99", 4);
        x = fullRoad();
        x.smithy(0, 9);
        due(x, "end 99", 8);
        x = behind("smithy 0 9", "buy 36", "end 12", "hide 0");
        due("end 1 behind a hide that makes it warm", x.end(1), 0);

        says("Promise 8: LIMIT_REACHED if the day would be above 9999");
        x = road(0, 1);
        endDays(x, 9900);
        due(x, "count 1", 9900);
        due("end 99 up to day 9999", x.end(99), 1);
        due(x, "count 1", 9999);
        dueRefused(x, "end 1", LIMIT);
        dueRefused(x, "end 99", LIMIT);
        due(x, "undo", 3);
        x.end(1);
        dueRefused(x, "end 99", LIMIT);
        due(x, "end 98", 1);
        x = road(0, 1);
        endDays(x, 9998);
        dueRefused(x, "end 2", LIMIT);
        due(x, "end 1", 1);
        dueRefused(x, "end 1", LIMIT);
    }

    private static void set() {
        int[] least = {1, 1, 0, 0};
        int[] most = {99, 24, 20, 500};
        int[] first = {30, 10, 4, 60};

        says("Promise 9: what: 0 to 3; INVALID_ARGUMENT if an argument is out of range");
        BellowsRound x = new BellowsRound();
        dueRefused(x, "set -1 5", INVALID);
        dueRefused(x, "set 4 5", INVALID);
        for (int what : FAR_OUT) {
            due(x, "set " + what + " 5", INVALID);
        }
        due(x, "set 0 5", 30);
        due(x, "set 3 5", 60);

        says("Promise 9: value: a value in its range; INVALID_ARGUMENT if an argument is out of range");
        for (int what = 0; what < 4; what++) {
            x = new BellowsRound();
            dueRefused(x, "set " + what + " " + (least[what] - 1), INVALID);
            dueRefused(x, "set " + what + " " + (most[what] + 1), INVALID);
            for (int value : FAR_OUT) {
                due(x, "set " + what + " " + value, INVALID);
            }
            due(x, "set " + what + " " + least[what], first[what]);
            due(x, "set " + what + " " + most[what], least[what]);
        }

        says("Promise 9: Returns what it was");
        for (int what = 0; what < 4; what++) {
            x = new BellowsRound();
            due(x, "set " + what + " 7", first[what]);
            due(x, "set " + what + " 8", 7);
            due(x, "set " + what + " 8", 8);
            due(x, "count " + (20 + what), 8);
        }
    }

    // ---- what there is

    private static void smithyOf() {
        says("Promise 10: number of the smithy; INVALID_ARGUMENT if an argument is out of range");
        BellowsRound x = fullRoad();
        for (int what = 0; what <= 10; what++) {
            due(x, "smithyOf -1 " + what, INVALID);
            due(x, "smithyOf 8 " + what, INVALID);
            due("smithyOf 0 " + what + " on an empty road", new BellowsRound().smithyOf(0, what), INVALID);
        }
        for (int number : FAR_OUT) {
            due(x, "smithyOf " + number + " 0", INVALID);
        }
        due(x, "smithyOf 0 0", 0);
        due(x, "smithyOf 7 0", 70);

        says("Promise 10: what: 0 to 10; INVALID_ARGUMENT if an argument is out of range");
        dueRefused(x, "smithyOf 0 -1", INVALID);
        dueRefused(x, "smithyOf 0 11", INVALID);
        for (int what : FAR_OUT) {
            due(x, "smithyOf 0 " + what, INVALID);
        }
    }

    private static void smithyOfBellows() {
        BellowsRound x = road(0, 1, 99, 9);
        says("Promise 10: 0: its mile");
        due(x, "smithyOf 0 0", 0);
        due(x, "smithyOf 1 0", 99);
        says("Promise 10: 1: its size");
        due(x, "smithyOf 0 1", 1);
        due(x, "smithyOf 1 1", 9);
        says("Promise 10: 2: the wear");
        due(x, "smithyOf 1 2", 0);
        due("smithyOf 1 2", behind("smithy 0 1", "smithy 99 9", "end 19").smithyOf(1, 2), 95);
        due("smithyOf 1 2", behind("smithy 0 1", "smithy 99 9", "end 20").smithyOf(1, 2), 100);
        due("smithyOf 1 2", behind("smithy 0 1", "smithy 99 9", "end 21").smithyOf(1, 2), 100);
        says("Promise 10: 3: the leak");
        due("smithyOf 0 3 with a wear of 9", behind("smithy 0 1", "end 9").smithyOf(0, 3), 0);
        due("smithyOf 0 3 with a wear of 10", behind("smithy 0 1", "end 10").smithyOf(0, 3), 1);
        due("smithyOf 0 3 with a wear of 99", behind("smithy 0 1", "end 99").smithyOf(0, 3), 9);
        due("smithyOf 0 3 with a wear of 100", behind("smithy 0 1", "end 99", "end 1").smithyOf(0, 3), 10);
        says("Promise 10: 4: the heat");
        due(x, "smithyOf 1 4", 100);
        due("smithyOf 0 4", behind("smithy 0 9", "end 14").smithyOf(0, 4), 2);
        due("smithyOf 0 4", behind("smithy 0 9", "end 15").smithyOf(0, 4), 0);
        due("smithyOf 0 4", behind("smithy 0 9", "end 16").smithyOf(0, 4), 0);
    }

    private static void smithyOfCold() {
        says("Promise 10: 5: 1 if it is cold, otherwise 0");
        due("smithyOf 0 5 with a heat of 40", behind("smithy 0 9", "end 11", "set 0 40").smithyOf(0, 5), 0);
        due("smithyOf 0 5 with a heat of 40", behind("smithy 0 9", "end 11", "set 0 41").smithyOf(0, 5), 1);
        due("smithyOf 0 5 with a heat of 0", behind("smithy 0 9", "end 15", "set 0 1").smithyOf(0, 5), 1);
        due("smithyOf 0 5 with a heat of 2", behind("smithy 0 9", "end 14", "set 0 1").smithyOf(0, 5), 0);
        due("smithyOf 0 5 with a heat of 100", behind("smithy 0 9", "set 0 99").smithyOf(0, 5), 0);
        says("Promise 10: 6: how long it has been cold");
        due("smithyOf 0 6 of one that has just come", road(0, 9).smithyOf(0, 6), 0);
        due("smithyOf 0 6", behind("smithy 0 9", "end 11").smithyOf(0, 6), 0);
        due("smithyOf 0 6", behind("smithy 0 9", "end 12").smithyOf(0, 6), 1);
        due("smithyOf 0 6", behind("smithy 0 9", "end 99").smithyOf(0, 6), 88);
        due("smithyOf 0 6", behind("smithy 0 9", "buy 36", "end 12", "hide 0", "end 1").smithyOf(0, 6), 0);
        BellowsRound x = road(0, 9);
        endDays(x, 9999);
        due("smithyOf 0 6 on the last day", x.smithyOf(0, 6), 9999 - 11);
    }

    private static void smithyOfAccount() {
        says("Promise 10: 7: its debt");
        BellowsRound x = behind("smithy 0 9", "buy 90", "end 3");
        due(x, "smithyOf 0 7", 0);
        x.patch(0);
        due(x, "smithyOf 0 7", 10);
        x.hide(0);
        due(x, "smithyOf 0 7", 130);
        says("Promise 10: 8: what it paid so far");
        due(x, "smithyOf 0 8", 0);
        x.set(0, 97);
        x.collect(0);
        due(x, "smithyOf 0 8", 65);
        x.set(0, 96);
        x.collect(0);
        due(x, "smithyOf 0 8", 130);
        says("Promise 10: 9: mends so far");
        due(x, "smithyOf 0 9", 2);
        x.hide(0);
        due("smithyOf 0 9 behind a mend that was refused", x.smithyOf(0, 9), 2);
        due("smithyOf 0 9 of a new one", road(0, 9).smithyOf(0, 9), 0);
    }

    private static void smithyOfWay() {
        says("Promise 10: 10: the hours of the way to it from where the mender is");
        int[] miles = {0, 1, 10, 11, 90, 91, 99};
        int[] hours = {0, 1, 1, 2, 9, 10, 10};
        for (int i = 0; i < miles.length; i++) {
            due("smithyOf 0 10 at " + miles[i] + " from 0", road(miles[i], 1).smithyOf(0, 10), hours[i]);
            BellowsRound x = road(99 - miles[i], 1);
            x.walk(99);
            due("smithyOf 0 10 at " + (99 - miles[i]) + " from 99, without hours", x.smithyOf(0, 10), hours[i]);
        }
    }

    private static void why() {
        says("Promise 11: number of the smithy; INVALID_ARGUMENT if an argument is out of range");
        BellowsRound x = road(0, 9, 0, 9);
        dueRefused(x, "why -1 0", INVALID);
        dueRefused(x, "why 2 0", INVALID);
        dueRefused(x, "why 2 1", INVALID);
        due(new BellowsRound(), "why 0 0", INVALID);
        for (int number : FAR_OUT) {
            due(x, "why " + number + " 0", INVALID);
        }

        says("Promise 11: 0 by patches, 1 by a whole hide; INVALID_ARGUMENT if an argument is out of range");
        dueRefused(x, "why 0 -1", INVALID);
        dueRefused(x, "why 0 2", INVALID);
        for (int hide : FAR_OUT) {
            due(x, "why 0 " + hide, INVALID);
        }
        x = behind("smithy 0 9", "end 1", "buy 1");
        due(x, "why 0 0", 0);
        due(x, "why 0 1", 3);
    }

    private static void whyOfMender() {
        says("Promise 11: 1 the mender is not there");
        BellowsRound x = behind("smithy 5 1", "buy 40", "end 1", "walk 4");
        due(x, "why 0 0", 1);
        due(x, "why 0 1", 1);
        x.walk(6);
        due(x, "why 0 0", 1);
        x.walk(5);
        due(x, "why 0 0", 0);
        due(x, "why 0 1", 0);

        says("Promise 11: 2 the hours are not enough");
        for (int hours = 0; hours <= 4; hours++) {
            x = road(10, 1);
            x.buy(40);
            x.set(1, hours + 1);
            x.end(1);
            due(x, "walk 10", hours);
            due("why 0 0 with " + hours + " hours", x.why(0, 0), hours < 1 ? 2 : 0);
            due("why 0 1 with " + hours + " hours", x.why(0, 1), hours < 3 ? 2 : 0);
        }

        says("Promise 11: 3 the leather is not enough");
        x = behind("smithy 0 1", "end 11", "buy 1");
        due("why 0 0 with 1 of leather for 2", x.why(0, 0), 3);
        x.buy(1);
        due("why 0 0 with 2 of leather for 2", x.why(0, 0), 0);
        x.buy(1);
        due("why 0 1 with 3 of leather for 4", x.why(0, 1), 3);
        x.buy(1);
        due("why 0 1 with 4 of leather for 4", x.why(0, 1), 0);
    }

    private static void whyOfSmithy() {
        says("Promise 11: 4 its debt is above the patience");
        BellowsRound x = behind("smithy 0 1", "buy 40", "end 3", "patch 0", "set 3 7");
        due("why 0 0 with a debt of 7 and the patience 7", x.why(0, 0), 0);
        due("why 0 1 with a debt of 7 and the patience 7", x.why(0, 1), 0);
        x.set(3, 6);
        due("why 0 0 with a debt of 7 and the patience 6", x.why(0, 0), 4);
        due("why 0 1 with a debt of 7 and the patience 6", x.why(0, 1), 4);
        x = behind("smithy 0 1", "buy 40", "end 3", "set 3 0");
        due("why 0 0 without debt and the patience 0", x.why(0, 0), 0);

        says("Promise 11: 5 there is no wear");
        x = behind("smithy 0 1", "buy 40");
        due(x, "why 0 0", 5);
        due(x, "why 0 1", 5);
        x.end(1);
        due("why 0 0 with a wear of 1", x.why(0, 0), 0);
        due("why 0 1 with a wear of 1", x.why(0, 1), 0);

        says("Promise 11: otherwise 0");
        due(x, "patch 0", 0);
        x.end(1);
        due(x, "why 0 1", 0);
        due(x, "hide 0", 7 + 24);
    }

    private static void whyFirstReason() {
        says("Promise 11: the first of these that is so");
        BellowsRound x = behind("smithy 50 9", "set 1 5", "end 1", "set 3 0", "walk 41");
        due("why 0 1, all but 4 and 5", x.why(0, 1), 1);
        x = behind("smithy 50 9", "set 1 5", "end 1", "walk 50");
        due("why 0 0 without hours and leather", x.why(0, 0), 2);
        due("why 0 1 without hours and leather", x.why(0, 1), 2);
        x.end(1);
        due("why 0 0 without leather", x.why(0, 0), 3);
        x = behind("smithy 0 9", "buy 1", "end 1", "patch 0", "set 3 0");
        due("why 0 0 without leather, with a debt", x.why(0, 0), 3);
        due("why 0 1 without leather, with a debt", x.why(0, 1), 3);
        x = behind("smithy 0 9");
        due("why 0 0 without wear and leather, which patches do not need then", x.why(0, 0), 5);
        due("why 0 1 without wear and leather", x.why(0, 1), 3);
        x = behind("smithy 0 1", "buy 9", "end 1", "patch 0");
        due("why 0 0 without wear, with a debt", x.why(0, 0), 5);
        x.set(3, 0);
        due("why 0 0 without wear, with a debt above the patience", x.why(0, 0), 4);
        due("why 0 1 without wear, with a debt above the patience", x.why(0, 1), 4);
        x.walk(1);
        due("why 0 0 without wear, with a debt, from the mile 1", x.why(0, 0), 1);
        x = behind("smithy 99 1", "walk 99");
        due("why 0 0 without wear and hours", x.why(0, 0), 2);
    }

    private static void mend() {
        says("Promise 12: number of the smithy; INVALID_ARGUMENT if an argument is out of range");
        BellowsRound x = road(0, 9, 0, 9);
        dueRefused(x, "mend -1 0 0", INVALID);
        dueRefused(x, "mend 2 0 0", INVALID);
        dueRefused(x, "mend 2 1 3", INVALID);
        due(new BellowsRound(), "mend 0 0 0", INVALID);
        for (int number : FAR_OUT) {
            due(x, "mend " + number + " 0 0", INVALID);
        }

        says("Promise 12: 0 by patches, 1 by a whole hide; INVALID_ARGUMENT if an argument is out of range");
        x = road(0, 9);
        dueRefused(x, "mend 0 -1 0", INVALID);
        dueRefused(x, "mend 0 2 0", INVALID);
        for (int hide : FAR_OUT) {
            due(x, "mend 0 " + hide + " 0", INVALID);
        }

        says("Promise 12: what: 0 to 3; INVALID_ARGUMENT if an argument is out of range");
        x = road(0, 9);
        dueRefused(x, "mend 0 0 -1", INVALID);
        dueRefused(x, "mend 0 0 4", INVALID);
        dueRefused(x, "mend 0 1 4", INVALID);
        for (int what : FAR_OUT) {
            due(x, "mend 0 0 " + what, INVALID);
        }
    }

    private static void mendNumbers() {
        says("Promise 12: 0: the hours");
        BellowsRound x = road(0, 9);
        due(x, "mend 0 0 0", 1);
        due(x, "mend 0 1 0", 3);

        says("Promise 12: 1: the leather");
        int[] wears = {0, 1, 10, 11, 99, 100};
        int[] leather = {0, 1, 1, 2, 10, 10};
        int[] thirds = {0, 0, 3, 3, 33, 33};
        for (int i = 0; i < wears.length; i++) {
            x = road(0, 1);
            endDays(x, wears[i]);
            due("mend 0 0 1 with a wear of " + wears[i], x.mend(0, 0, 1), leather[i]);
        }
        due(road(0, 1), "mend 0 1 1", 4);
        due(road(0, 9), "mend 0 1 1", 36);

        says("Promise 12: 2: what the smithy would owe for it");
        due("mend 0 0 2 with a wear of 100", x.mend(0, 0, 2), 4 + 30);
        due(x, "mend 0 1 2", 12 + 12);
        x.set(2, 20);
        due(x, "mend 0 0 2", 20 + 30);
        due(x, "mend 0 1 2", 60 + 12);
        x.set(2, 0);
        due(x, "mend 0 0 2", 30);
        due(x, "mend 0 1 2", 12);
        x.buy(10);
        x.patch(0);
        due("mend 0 0 2, for this one alone", x.mend(0, 0, 2), 3 * 4);

        says("Promise 12: 3: the wear behind it");
        for (int i = 0; i < wears.length; i++) {
            x = road(0, 1);
            endDays(x, wears[i]);
            due("mend 0 0 3 with a wear of " + wears[i], x.mend(0, 0, 3), thirds[i]);
            due("mend 0 1 3 with a wear of " + wears[i], x.mend(0, 1, 3), 0);
        }
    }

    private static void mendPossibleOrNot() {
        says("Promise 12: whether it is possible or not");
        BellowsRound x = behind("smithy 50 9", "end 3", "walk 99");
        dueOfMend("not there, without hours and leather", x);
        x = behind("smithy 0 9", "buy 2", "end 3", "patch 0", "set 3 0", "end 2");
        due(x, "why 0 0", 3);
        dueOfMend("with a debt", x);
        x = road(0, 9);
        due("mend 0 0 1 without wear", x.mend(0, 0, 1), 0);
        due("mend 0 0 2 without wear", x.mend(0, 0, 2), 4);
        due("mend 0 1 1 without wear", x.mend(0, 1, 1), 36);
        due("mend 0 1 2 without wear", x.mend(0, 1, 2), 120);
    }

    /** Of a smithy of the size 9 with a wear of 15. */
    private static void dueOfMend(String when, BellowsRound x) {
        int[] patches = {1, 2, 10, 5};
        int[] hide = {3, 36, 120, 0};
        for (int what = 0; what < 4; what++) {
            due("mend 0 0 " + what + " " + when, x.mend(0, 0, what), patches[what]);
            due("mend 0 1 " + what + " " + when, x.mend(0, 1, what), hide[what]);
        }
    }

    // ---- what would be

    private static void coldIn() {
        says("Promise 13: number of the smithy; INVALID_ARGUMENT");
        BellowsRound x = road(0, 9, 0, 1);
        dueOutOfRange(x, "coldIn", -1, 2, 8);
        due(new BellowsRound(), "coldIn 0", INVALID);

        says("Promise 13: Tells at the end of how many days the hearth of a smithy will be cold for the first time");
        for (int day = 0; day <= 12; day++) {
            x = road(99, 9);
            endDays(x, day);
            due("coldIn 0 on day " + day, x.coldIn(0), 12 - day);
        }
        x = behind("smithy 0 9", "end 11", "set 0 40");
        due("coldIn 0 with a heat of 40 and the cold 40", x.coldIn(0), 1);
        x = behind("smithy 0 9", "set 0 40");
        due("coldIn 0 with the cold 40", x.coldIn(0), 12);
        x = behind("smithy 0 9", "set 0 41");
        due("coldIn 0 with the cold 41", x.coldIn(0), 11);
        x = behind("smithy 0 9", "set 0 99");
        due("coldIn 0 with the cold 99", x.coldIn(0), 2);
        x = behind("smithy 0 9", "set 0 1");
        due("coldIn 0 with the cold 1", x.coldIn(0), 15);

        says("Promise 13: if nothing is mended");
        x = behind("smithy 0 9", "buy 40", "end 11", "patch 0");
        // 40 and a wear of 18 behind the mend: 36, 32, 26
        due("coldIn 0 behind a mend", x.coldIn(0), 3);
        due("coldIn 0, asked again", x.coldIn(0), 3);
        due("end 2", x.end(2), 0);
        due("end 1", x.end(1), 1);

        says("Promise 13: 0 if it is cold now");
        due(x, "coldIn 0", 0);
        x = behind("smithy 0 9", "end 11", "set 0 41");
        due("coldIn 0 of one that is cold by the setting", x.coldIn(0), 0);
        x = behind("smithy 0 9", "buy 36", "end 12", "hide 0");
        due("coldIn 0 of a cold one that grows warm on the next day", x.coldIn(0), 0);
    }

    /** NOT_FOUND would be due behind 200 days, but with the ranges of the document every hearth is cold by then. */
    private static void coldInOfEverySize() {
        says("Promise 13: NOT_FOUND if it is not by 200");
        BellowsRound x = behind("smithy 0 1", "set 0 1");
        due("coldIn 0 of the slowest wear and the least cold", x.coldIn(0), 36);
        due("end 35", x.end(35), 0);
        due("end 1", x.end(1), 1);
        int[] colds = {1, 30, 99};
        for (int size = 1; size <= 9; size++) {
            for (int cold : colds) {
                x = road(0, size);
                x.set(0, cold);
                int days = x.coldIn(0);
                due("coldIn 0 of the size " + size + " is 1 to 200", days >= 1 && days <= 200 ? 1 : 0, 1);
                endDays(x, days - 1);
                due("cold a day ahead of coldIn 0", x.count(9), 0);
                x.end(1);
                due("cold behind coldIn 0", x.count(9), 1);
            }
        }
    }

    private static void next() {
        says("Promise 14: NOT_FOUND if there is no wear");
        due(new BellowsRound(), "next", NOT_FOUND);
        BellowsRound x = fullRoad();
        dueRefused(x, "next", NOT_FOUND);
        x.end(1);
        due(x, "next", 7);
        x = behind("smithy 0 1", "buy 1", "end 1", "patch 0");
        dueRefused(x, "next", NOT_FOUND);
        x.end(1);
        due("next with a wear of 1", x.next(), 0);

        says("Promise 14: of those with wear");
        x = behind("smithy 0 1", "end 1", "smithy 0 9");
        due("coldIn 1, the first", x.coldIn(1) < x.coldIn(0) ? 1 : 0, 1);
        due("next, the other being without wear", x.next(), 0);

        says("Promise 14: the one whose hearth is cold first, by coldIn()");
        x = road(99, 9, 0, 1, 0, 2);
        x.end(1);
        due("next, of the soonest cold", x.next(), 0);
        x = behind("smithy 0 1", "smithy 0 2", "smithy 99 9", "end 1");
        due("next, of the soonest cold", x.next(), 2);
        // The smithy 0 is cold with a wear of 20, the smithy 1 warm with one of 35.
        x = behind("smithy 0 9", "buy 40", "end 5", "smithy 0 9", "end 7", "patch 0");
        due(x, "smithyOf 0 2", 20);
        due(x, "smithyOf 1 2", 35);
        due(x, "coldIn 0", 0);
        due("next, of the soonest cold with less wear", x.next(), 0);

        says("Promise 14: those that never are behind all others (none ever is: each is cold by 200)");
        x = behind("smithy 0 1", "smithy 0 9", "set 0 1", "end 1");
        due("next, the slowest wear and the least cold behind the other", x.next(), 1);
    }

    private static void nextOfSeveral() {
        says("Promise 14: of several the one with the greatest wear");
        BellowsRound x = behind("smithy 0 4", "smithy 99 9", "set 0 99", "end 4");
        due(x, "coldIn 0", 0);
        due(x, "coldIn 1", 0);
        due("next, with wears of 12 and 20", x.next(), 1);
        x = behind("smithy 99 9", "smithy 0 4", "set 0 99", "end 4");
        due("next, with wears of 20 and 12", x.next(), 0);

        says("Promise 14: of these the nearest one by miles");
        x = behind("smithy 50 5", "smithy 30 5", "smithy 40 5", "end 1");
        due("next from the mile 0", x.next(), 1);
        due(x, "walk 36", 6);
        due("next from the mile 36", x.next(), 2);
        due(x, "walk 46", 5);
        due("next from the mile 46", x.next(), 0);
        x = behind("smithy 9 5", "smithy 8 5", "end 1");
        due("next by miles, of ways of the same hours", x.next(), 1);

        says("Promise 14: of these the lowest");
        x = behind("smithy 0 1", "smithy 30 5", "smithy 20 5", "smithy 30 5", "end 1", "walk 25");
        due("next from the mile 25, in the middle", x.next(), 1);
        x = behind("smithy 7 5", "smithy 7 5", "smithy 7 5", "smithy 7 5", "smithy 7 5", "smithy 7 5", "smithy 7 5",
                "smithy 7 5", "end 1");
        due("next of eight that are the same", x.next(), 0);
    }

    private static void round() {
        says("Promise 15: a set of smithies that there are; INVALID_ARGUMENT if an argument is out of range");
        BellowsRound x = new BellowsRound();
        for (int count = 0; count <= 8; count++) {
            int all = (1 << count) - 1;
            if (count > 0) {
                due("round of all " + count, x.round(all, 0), 1);
                due("round of the last of " + count, x.round(1 << (count - 1), 0), 1);
            }
            due("round of " + count + " and one more", x.round(2 * all + 1, 0), INVALID);
            due("round of one more than " + count, x.round(all + 1, 0), INVALID);
            due("round(256, 0)", x.round(256, 0), INVALID);
            due("round(257, 0)", x.round(257, 0), INVALID);
            x.smithy(9, 9);
        }
        x = road(9, 9);
        dueRefused(x, "round -1 0", INVALID);
        for (int set : FAR_OUT) {
            due(x, "round " + set + " 0", INVALID);
        }

        says("Promise 15: at least one");
        x = road(9, 9);
        dueRefused(x, "round 0 0", INVALID);
        dueRefused(x, "round 0 1", INVALID);
        dueRefused(x, "round 0 2", INVALID);
        due(new BellowsRound(), "round 0 0", INVALID);

        says("Promise 15: what: 0 to 2; INVALID_ARGUMENT if an argument is out of range");
        x = road(9, 9);
        dueRefused(x, "round 1 -1", INVALID);
        dueRefused(x, "round 1 3", INVALID);
        for (int what : FAR_OUT) {
            due(x, "round 1 " + what, INVALID);
        }
    }

    private static void roundOfWalks() {
        says("Promise 15: in the order of their miles (the least first), from where the mender is");
        BellowsRound x = road(60, 1, 9, 1, 41, 1);
        due("round(7, 0) from 0: 9, 32 and 19 miles", x.round(7, 0), 1 + 4 + 2);
        x.walk(50);
        due("round(7, 0) from 50: 41, 32 and 19 miles", x.round(7, 0), 5 + 4 + 2);
        due("round(5, 0) from 50: 9 and 19 miles", x.round(5, 0), 1 + 2);
        due("round(1, 0) from 50: 10 miles", x.round(1, 0), 1);
        x = road(60, 1, 9, 1, 41, 1);
        x.walk(99);
        due("round(7, 0) from 99: 90, 32 and 19 miles", x.round(7, 0), 9 + 4 + 2);

        says("Promise 15: of several at the same mile the lowest first");
        x = road(25, 1, 5, 1, 25, 9, 25, 5);
        due("round(15, 0): 5, 20, 0 and 0 miles", x.round(15, 0), 1 + 2);
        due("round(13, 0): 25, 0 and 0 miles", x.round(13, 0), 3);
    }

    private static void roundOfMends() {
        says("Promise 15: 0: the hours, of walks and mends; 1: the leather; 2: what they would owe for it");
        BellowsRound x = behind("smithy 0 1", "smithy 99 9", "end 11");
        // wears of 11 and 55
        due(x, "round 1 0", 1);
        due(x, "round 1 1", 2);
        due(x, "round 1 2", 4 + 6);
        due(x, "round 2 0", 10 + 1);
        due(x, "round 2 1", 6);
        due(x, "round 2 2", 4 + 18);
        due(x, "round 3 0", 10 + 2);
        due(x, "round 3 1", 8);
        due(x, "round 3 2", 8 + 24);
        x.set(2, 20);
        due(x, "round 3 2", 40 + 24);
        x.set(2, 0);
        due(x, "round 3 2", 24);
        // the last of all eight counts, too: sizes 1 to 8 with wears of 1, 2, 2, 3, 3, 4, 4 and 5, one each 10 miles
        x = fullRoad();
        x.end(1);
        due("round(255, 0) to all eight", x.round(255, 0), 7 + 8);
        due("round(255, 1) to all eight", x.round(255, 1), 8);
        due("round(255, 2) to all eight", x.round(255, 2), 8 * 4 + 8 * 3);
        due("round(127, 0) to all but the last", x.round(127, 0), 6 + 7);

        says("Promise 15: each is mended by patches, if it can be (by reason 5: there is no wear)");
        x = behind("smithy 15 9", "end 2", "smithy 25 9");
        due("round(2, 0) without wear", x.round(2, 0), 3);
        due("round(2, 1) without wear", x.round(2, 1), 0);
        due("round(2, 2) without wear", x.round(2, 2), 0);
        due("round(3, 0) with one without wear", x.round(3, 0), 2 + 1 + 1);
        due("round(3, 1) with one without wear", x.round(3, 1), 1);
        due("round(3, 2) with one without wear", x.round(3, 2), 7);

        says("Promise 15: each is mended by patches, if it can be (by reason 4: its debt is above the patience)");
        x = behind("smithy 0 9", "smithy 0 9", "buy 40", "end 1", "patch 0", "set 3 7");
        due("round(3, 2) with a debt of 7 and the patience 7", x.round(3, 2), 14);
        due("round(3, 0) with a debt of 7 and the patience 7", x.round(3, 0), 2);
        x.set(3, 6);
        due("round(3, 0) with a debt of 7 and the patience 6", x.round(3, 0), 1);
        due("round(3, 1) with a debt of 7 and the patience 6", x.round(3, 1), 1);
        due("round(3, 2) with a debt of 7 and the patience 6", x.round(3, 2), 7);
        due("round(1, 0) with a debt of 7 and the patience 6", x.round(1, 0), 0);
        due("round(1, 1) with a debt of 7 and the patience 6", x.round(1, 1), 0);

        says("Promise 15: Days and leather do not matter.");
        x = behind("smithy 99 9", "smithy 0 9", "smithy 98 9", "end 20", "set 1 1", "end 1");
        due(x, "count 3", 1);
        due(x, "count 4", 0);
        due("round(7, 0) with 1 hour", x.round(7, 0), 10 + 1 + 3);
        due("round(7, 1) without leather", x.round(7, 1), 30);
        due("round(7, 2) without leather", x.round(7, 2), 12 + 90);
        due("count 2, the mender stays", x.count(2), 0);
        due("smithyOf 1 2, nothing is mended", x.smithyOf(1, 2), 100);
    }

    private static void mean() {
        says("Promise 16: NOT_FOUND if there are none");
        BellowsRound x = new BellowsRound();
        dueRefused(x, "mean", NOT_FOUND);
        x.smithy(0, 9);
        due("mean without wear", x.mean(), 0);
        x.undo();
        dueRefused(x, "mean", NOT_FOUND);

        says("Promise 16: the mean wear of all bellows, as a float: the wears together, divided by how many there are");
        for (int count = 1; count <= 8; count++) {
            x = behind("smithy 0 1", "end 1");
            for (int i = 1; i < count; i++) {
                x.smithy(0, 9);
            }
            due("mean of 1 and " + (count - 1) + " without wear", x.mean(), Float.floatToIntBits(1f / count));
            for (int day = 1; day <= 21; day++) {
                x.end(1);
                float together = 1 + day + (count - 1) * Math.min(100, 5 * day);
                due("mean of " + count + " on day " + (day + 1), x.mean(), Float.floatToIntBits(together / count));
            }
        }
        x = fullRoad();
        endDays(x, 100);
        due("mean of the greatest wears", x.mean(), Float.floatToIntBits(100f));
    }

    private static void count() {
        says("Promise 17: INVALID_ARGUMENT if what is out of range");
        BellowsRound x = behind("smithy 0 9", "end 12");
        dueOutOfRange(x, "count", -1, 14, 15, 18, 19, 24, 25);
        for (int what = 0; what <= 13; what++) {
            due("count " + what + " is in range", x.count(what) == INVALID ? 1 : 0, 0);
        }
        for (int what = 20; what <= 23; what++) {
            due("count " + what + " is in range", x.count(what) == INVALID ? 1 : 0, 0);
        }
    }

    private static void countMender() {
        says("Promise 17: 0: smithies");
        due(new BellowsRound(), "count 0", 0);
        due(fullRoad(), "count 0", 8);
        says("Promise 17: 1: the day");
        BellowsRound x = new BellowsRound();
        endDays(x, 9999);
        due(x, "count 1", 9999);
        says("Promise 17: 2: the mile of the mender");
        due(behind("walk 99"), "count 2", 99);
        due(behind("walk 99", "end 1", "walk 0"), "count 2", 0);
        says("Promise 17: 3: the hours that are left");
        due(behind("walk 99"), "count 3", 0);
        due(behind("set 1 24", "end 1"), "count 3", 24);
        says("Promise 17: 4: the leather");
        due(behind("buy 999"), "count 4", 999);
        due(behind("smithy 0 9", "buy 1", "end 1", "patch 0"), "count 4", 0);
        says("Promise 17: 5: the money");
        due(behind("buy 50"), "count 5", 0);
        due(behind("buy 51"), "count 5", -2);
        due(behind("smithy 0 9", "buy 1", "end 1", "patch 0", "collect 0"), "count 5", 105);
    }

    private static void countAccounts() {
        says("Promise 17: 6: all debts together");
        BellowsRound x = behind("smithy 0 9", "smithy 0 9", "buy 40");
        due(x, "count 6", 0);
        x.end(1);
        x.patch(0);
        x.hide(1);
        due(x, "count 6", 7 + 120);
        x.collect(1);
        due(x, "count 6", 7);
        says("Promise 17: 7: what was paid for leather so far");
        due(x, "count 7", 80);
        x.buy(900);
        due(x, "count 7", 1880);
        says("Promise 17: 8: what was owed for mends so far");
        due(x, "count 8", 127);
        due(new BellowsRound(), "count 8", 0);
    }

    private static void countColdHearths() {
        says("Promise 17: 9: cold hearths, as a set");
        BellowsRound x = fullRoad();
        due(x, "count 9", 0);
        x.end(12);
        due(x, "count 9", 128);
        x.end(99);
        due(x, "count 9", 255);
        says("Promise 17: 10: the greatest number of days that a hearth has been cold so far");
        due(behind("smithy 0 9", "end 11"), "count 10", 0);
        due(behind("smithy 0 9", "end 12"), "count 10", 1);
        x = behind("smithy 0 9", "smithy 0 5", "buy 90", "end 20");
        due("count 10, of 9 and 4 days", x.count(10), 9);
        x.hide(0);
        x.hide(1);
        x.end(3);
        due(x, "smithyOf 0 6", 12);
        due(x, "count 10", 12);
        x.set(0, 1);
        x.end(1);
        x.set(0, 30);
        x.end(1);
        due(x, "smithyOf 0 6", 1);
        due("count 10 stays the greatest", x.count(10), 12);
    }

    private static void countOthers() {
        says("Promise 17: 11: miles walked so far");
        due(behind("walk 0"), "count 11", 0);
        due(behind("walk 9", "walk 0", "walk 21", "walk 80", "walk 20"), "count 11", 9 + 9 + 21 + 1);
        due(behind("walk 99", "end 1", "walk 0"), "count 11", 198);
        says("Promise 17: 12: states in the history");
        due(new BellowsRound(), "count 12", 0);
        due(behind("walk 0", "walk 0", "walk 0", "walk 0"), "count 12", 4);
        due(behind("walk 0", "walk 0", "walk 0", "walk 0", "walk 0"), "count 12", 4);
        due(behind("walk 0", "undo"), "count 12", 0);
        says("Promise 17: 13: the length of the text");
        due(new BellowsRound(), "count 13", 0);
        due(withText(FULL_TEXT), "count 13", 60);
        due(withText(FULL_TEXT + "b"), "count 13", 60);
        says("Promise 17: 20 to 23: the settings 0 to 3");
        BellowsRound x = behind("set 0 99", "set 1 24", "set 2 20", "set 3 500");
        due(x, "count 20", 99);
        due(x, "count 21", 24);
        due(x, "count 22", 20);
        due(x, "count 23", 500);
    }

    private static void undo() {
        says("Promise 18: Restores the latest state of the history, which is removed from it.");
        BellowsRound x = behind("buy 1", "buy 2", "walk 9");
        due(x, "undo", 2);
        due(x, "count 2", 0);
        due(x, "count 4", 3);
        due(x, "count 12", 2);
        due(x, "undo", 1);
        due(x, "count 4", 1);
        due(x, "buy 7", 8);
        due(x, "count 12", 2);
        due(x, "undo", 1);
        due(x, "count 4", 1);

        says("Promise 18: Returns the number of states that are left in the history");
        x = behind("buy 1", "buy 1", "buy 1", "buy 1", "buy 1", "buy 1");
        for (int left = 3; left >= 0; left--) {
            due(x, "undo", left);
            due(x, "count 12", left);
            due(x, "count 4", 2 + left);
        }

        says("Promise 18: NOT_POSSIBLE if it is empty");
        dueRefused(x, "undo", NOT_POSSIBLE);
        dueRefused(new BellowsRound(), "undo", NOT_POSSIBLE);
        dueRefused(behind("walk 100", "buy 0", "end 0"), "undo", NOT_POSSIBLE);
        dueRefused(withText("b1;"), "undo", NOT_POSSIBLE);
    }

    // ---- texts

    private static void type() {
        says("Promise 19: character: 32 to 126; INVALID_ARGUMENT if character is out of range");
        BellowsRound x = new BellowsRound();
        dueOutOfRange(x, "type", -1, 0, 31, 127, 128, 255, 65536 + 59);
        due(x, "type 32", 1);
        due(x, "type 126", 2);

        says("Promise 19: Appends a character to the text. Returns the length of the text");
        x = new BellowsRound();
        due(x, "type 98", 1);
        due(x, "fault 2", 1);
        due(x, "type 49", 2);
        due(x, "fault 2", 2);
        due(x, "type 59", 3);
        due(x, "fault 2", NOT_FOUND);
        due(x, "count 13", 3);

        says("Promise 19: LIMIT_REACHED if it has 60 characters");
        x = new BellowsRound();
        type(x, FULL_TEXT.substring(1));
        due(x, "count 13", 59);
        due(x, "type 59", 60);
        dueRefused(x, "type 59", LIMIT);
        dueRefused(x, "type 32", LIMIT);
        due(x, "type 31", INVALID);
        x.clearText();
        due(x, "type 59", 1);
    }

    private static void clearText() {
        says("Promise 20: Empties the text. Returns the length it had.");
        BellowsRound x = new BellowsRound();
        due("clearText of an empty text", x.clearText(), 0);
        x.type('x');
        due(x, "clearText", 1);
        due(x, "count 13", 0);
        due(x, "fault 0", NOT_FOUND);
        due("clearText of a text that was cleared", x.clearText(), 0);
        type(x, FULL_TEXT);
        due("clearText of a full text", x.clearText(), 60);
        due(x, "play", 0);
    }

    private static void fault() {
        says("Promise 21: what: 0 to 2; INVALID_ARGUMENT if what is out of range");
        BellowsRound x = withText("b1;x");
        dueOutOfRange(x, "fault", -1, 3);
        dueOutOfRange(new BellowsRound(), "fault", -1, 3);

        says("Promise 21: 0: its position; 1: its reason; 2: its cause");
        due(x, "fault 0", 3);
        due(x, "fault 1", 1);
        due(x, "fault 2", 0);
        x = withText("b1;w1;w100;");
        due(x, "fault 0", 6);
        due(x, "fault 1", 2);
        due(x, "fault 2", INVALID);
        due("count 4, telling does nothing", x.count(4), 0);
        due("count 12, telling is no change", x.count(12), 0);

        says("Promise 21: NOT_FOUND if the text has no fault");
        for (int what = 0; what <= 2; what++) {
            dueRefused(withText("b1;w1;d99;"), "fault " + what, NOT_FOUND);
            dueRefused(withText(FULL_TEXT), "fault " + what, NOT_FOUND);
        }

        says("Promise 21: (also if it is empty)");
        for (int what = 0; what <= 2; what++) {
            dueRefused(new BellowsRound(), "fault " + what, NOT_FOUND);
            x = withText("x");
            x.clearText();
            dueRefused(x, "fault " + what, NOT_FOUND);
        }
    }

    private static void play() {
        says("Promise 22: Does all orders of the text. Returns how many there are in it");
        BellowsRound x = withText("b9;w1;d2;");
        due(x, "play", 3);
        dueNumbers("behind play", x, "0 2 1 10 9 82 0 18 0 0 0 1 30 10 4 60 ");
        x = withText("b1;");
        due(x, "play", 1);
        x = withText(FULL_TEXT);
        due(x, "play", 20);
        due(x, "count 4", 20);

        says("Promise 22: which stays");
        due(x, "count 13", 60);
        due("play, again", x.play(), 20);
        due(x, "count 4", 40);

        says("Promise 22: They are one change");
        due(x, "count 12", 2);
        due(x, "undo", 1);
        due(x, "count 4", 20);
        due(x, "undo", 0);
        due(x, "count 4", 0);
        due(x, "count 13", 60);

        says("Promise 22: also if there are none");
        x = new BellowsRound();
        due("play of an empty text", x.play(), 0);
        due(x, "count 12", 1);
        due(x, "undo", 0);
        due(x, "undo", NOT_POSSIBLE);

        says("Promise 22: NOT_POSSIBLE if it has a fault");
        String[] faults = {"x", ";", "b1;x", "b1;b2", "b1;w100;", "b999;b1;", "w99;w0;", "d1;p0;"};
        for (String text : faults) {
            dueRefused(withText(text), "play", NOT_POSSIBLE);
        }
        x = withText("b600;");
        due(x, "play", 1);
        dueRefused(x, "play", NOT_POSSIBLE);
    }
}
