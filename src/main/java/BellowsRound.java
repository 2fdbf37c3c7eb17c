/**
 * A mender of bellows on a round: smithies on a road, their bellows and hearths, the mender's day,
 * leather and accounts, and orders as texts.
 */
public final class BellowsRound {
    public static final int INVALID_ARGUMENT = -1000000001;
    public static final int NOT_POSSIBLE = -1000000002;
    public static final int LIMIT_REACHED = -1000000003;
    public static final int NOT_FOUND = -1000000004;

    private static final int MOST_SMITHIES = 8;
    private static final int MOST_STATES = 4;
    private static final int MOST_CHARACTERS = 60;
    private static final int MOST_DIGITS = 3;
    private static final int MOST_MILE = 99;
    private static final int MOST_SIZE = 9;
    private static final int MOST_WEAR = 100;
    private static final int MOST_HEAT = 100;
    private static final int MOST_LEATHER = 999;
    private static final int MOST_DAYS_AT_ONCE = 99;
    private static final int MOST_DAY = 9999;
    private static final int DAYS_AHEAD = 200;
    // Behind every day that coldDaysAhead() can tell, so that it sorts last.
    private static final int NEVER_COLD = DAYS_AHEAD + 1;

    private static final int COLD = 0;
    private static final int HOURS = 1;
    private static final int RATE = 2;
    private static final int PATIENCE = 3;

    private static final int CAN_BE_MENDED = 0;
    private static final int NOT_THERE = 1;
    private static final int TOO_FEW_HOURS = 2;
    private static final int TOO_LITTLE_LEATHER = 3;
    private static final int TOO_MUCH_DEBT = 4;
    private static final int NO_WEAR = 5;

    private static final int FAULT_OF_FORM = 1;
    private static final int FAULT_OF_CALL = 2;

    private State now = new State();
    // Every change is tried here first, so that a call that returns an error changes nothing.
    private State trial = new State();
    private final State[] history = new State[MOST_STATES];
    private int states;
    private final OrderText text = new OrderText();
    private int ordersTried;
    private int faultPosition;
    private int faultReason;
    private int faultCause;

    public BellowsRound() {
        for (int i = 0; i < history.length; i++) {
            history[i] = new State();
        }
    }

    // ---- smithies

    public int smithy(int mile, int size) {
        trial.copyFrom(now);
        return commit(trial.addSmithy(mile, size));
    }

    // ---- the mender

    public int walk(int mile) {
        trial.copyFrom(now);
        return commit(trial.walkTo(mile));
    }

    public int buy(int much) {
        trial.copyFrom(now);
        return commit(trial.buyLeather(much));
    }

    public int patch(int smithy) {
        trial.copyFrom(now);
        return commit(trial.mendBellows(smithy, false));
    }

    public int hide(int smithy) {
        trial.copyFrom(now);
        return commit(trial.mendBellows(smithy, true));
    }

    public int collect(int smithy) {
        trial.copyFrom(now);
        return commit(trial.collectDebt(smithy));
    }

    public int end(int days) {
        trial.copyFrom(now);
        return commit(trial.endDays(days));
    }

    public int set(int what, int value) {
        trial.copyFrom(now);
        return commit(trial.changeSetting(what, value));
    }

    // ---- what there is

    public int smithyOf(int smithy, int what) {
        Smithy asked = now.find(smithy);
        if (asked == null) {
            return INVALID_ARGUMENT;
        }
        switch (what) {
            case 0: return asked.mile;
            case 1: return asked.size;
            case 2: return asked.wear;
            case 3: return leakOf(asked.wear);
            case 4: return asked.heat;
            case 5: return now.isCold(asked.heat) ? 1 : 0;
            case 6: return asked.coldDays;
            case 7: return asked.debt;
            case 8: return asked.paid;
            case 9: return asked.mends;
            case 10: return hoursOfWay(now.mile, asked.mile);
            default: return INVALID_ARGUMENT;
        }
    }

    public int why(int smithy, int hide) {
        Smithy asked = now.find(smithy);
        if (asked == null || !isFlag(hide)) {
            return INVALID_ARGUMENT;
        }
        return now.reasonAgainst(asked, hide == 1);
    }

    public int mend(int smithy, int hide, int what) {
        Smithy asked = now.find(smithy);
        if (asked == null || !isFlag(hide)) {
            return INVALID_ARGUMENT;
        }
        boolean byHide = hide == 1;
        switch (what) {
            case 0: return hoursOfMend(byHide);
            case 1: return asked.leatherOfMend(byHide);
            case 2: return now.priceOfMend(asked, byHide);
            case 3: return asked.wearBehindMend(byHide);
            default: return INVALID_ARGUMENT;
        }
    }

    // ---- what would be

    public int coldIn(int smithy) {
        Smithy asked = now.find(smithy);
        if (asked == null) {
            return INVALID_ARGUMENT;
        }
        int days = now.coldDaysAhead(asked);
        return days == NEVER_COLD ? NOT_FOUND : days;
    }

    public int next() {
        return now.smithyToBeNext();
    }

    public int round(int smithies, int what) {
        if (smithies < 1 || smithies >= (1 << now.smithyCount) || what < 0 || what > 2) {
            return INVALID_ARGUMENT;
        }
        return now.tellRound(smithies, what);
    }

    public int mean() {
        if (now.smithyCount <= 0) {
            return NOT_FOUND;
        }
        return bitsOf((float) now.wearTogether() / (float) now.smithyCount);
    }

    public int count(int what) {
        switch (what) {
            case 0: return now.smithyCount;
            case 1: return now.day;
            case 2: return now.mile;
            case 3: return now.hoursLeft;
            case 4: return now.leather;
            case 5: return now.money;
            case 6: return now.debtsTogether();
            case 7: return now.paidForLeather;
            case 8: return now.owedForMends;
            case 9: return now.coldSet();
            case 10: return now.longestCold;
            case 11: return now.milesWalked;
            case 12: return states;
            case 13: return text.length;
            case 20: return now.cold;
            case 21: return now.hours;
            case 22: return now.rate;
            case 23: return now.patience;
            default: return INVALID_ARGUMENT;
        }
    }

    public int undo() {
        if (states < 1 || states > history.length) {
            return NOT_POSSIBLE;
        }
        State latest = history[states - 1];
        if (latest == null) {
            return NOT_POSSIBLE;
        }
        now.copyFrom(latest);
        states--;
        return states;
    }

    // ---- texts

    public int type(int character) {
        if (character < 32 || character > 126) {
            return INVALID_ARGUMENT;
        }
        return text.append((char) character);
    }

    public int clearText() {
        int had = text.length;
        text.length = 0;
        return had;
    }

    public int fault(int what) {
        if (what < 0 || what > 2) {
            return INVALID_ARGUMENT;
        }
        if (tryOrders()) {
            return NOT_FOUND;
        }
        switch (what) {
            case 0: return faultPosition;
            case 1: return faultReason;
            default: return faultCause;
        }
    }

    public int play() {
        if (!tryOrders()) {
            return NOT_POSSIBLE;
        }
        return commit(ordersTried);
    }

    // ---- changes and the history

    /** Makes the trial the present state, unless it ended with an error: no answer of a change is below 0. */
    private int commit(int answer) {
        if (answer < 0) {
            return answer;
        }
        remember();
        State before = now;
        now = trial;
        trial = before;
        return answer;
    }

    private void remember() {
        if (states >= history.length) {
            dropOldestState();
        }
        if (states < 0 || states >= history.length) {
            return;
        }
        State row = history[states];
        if (row != null) {
            row.copyFrom(now);
            states++;
        }
    }

    /** The row of the oldest state goes behind the others, to be used again. */
    private void dropOldestState() {
        for (int i = 0; i + 1 < history.length; i++) {
            State older = history[i];
            history[i] = history[i + 1];
            history[i + 1] = older;
        }
        states--;
    }

    /** Does the orders of the text on the trial; false if one is not possible, which the fault fields then tell. */
    private boolean tryOrders() {
        trial.copyFrom(now);
        ordersTried = 0;
        int start = 0;
        for (int i = 0; i < MOST_CHARACTERS && start < text.length; i++) {
            if (!text.readOrder(start)) {
                keepFault(start, FAULT_OF_FORM, text.brokenAt);
                return false;
            }
            int answer = trial.doOrder(text.letter, text.number);
            if (answer < 0) {
                keepFault(start, FAULT_OF_CALL, answer);
                return false;
            }
            ordersTried++;
            start = text.behind;
        }
        return true;
    }

    private void keepFault(int position, int reason, int cause) {
        faultPosition = position;
        faultReason = reason;
        faultCause = cause;
    }

    // ---- the rules of wear, heat and ways

    private static boolean isFlag(int value) {
        return value == 0 || value == 1;
    }

    private static int leakOf(int wear) {
        return wear / 10;
    }

    private static int wearBehindDay(int wear, int size) {
        return Math.min(MOST_WEAR, wear + size / 2 + 1);
    }

    /** The wear is the one of the day's end, as it has grown. */
    private static int heatBehindDay(int heat, int wear) {
        int leak = leakOf(wear);
        if (leak == 0) {
            return Math.min(MOST_HEAT, heat + 10);
        }
        return Math.max(0, heat - leak * 2);
    }

    private static int tensBegun(int number) {
        return (number + 9) / 10;
    }

    private static int hoursOfWay(int from, int to) {
        return tensBegun(Math.abs(from - to));
    }

    private static int hoursOfMend(boolean byHide) {
        return byHide ? 3 : 1;
    }

    /** The bits of a float from 0 up to 100, put together by hand, as the library's own call may not be used. */
    private static int bitsOf(float value) {
        if (value <= 0f) {
            return 0;
        }
        float fraction = value;
        int exponent = 0;
        for (int i = 0; i < 127 && fraction >= 2f; i++) {
            fraction = fraction / 2f;
            exponent++;
        }
        for (int i = 0; i < 126 && fraction < 1f; i++) {
            fraction = fraction * 2f;
            exponent--;
        }
        int behindPoint = (int) ((fraction - 1f) * 8388608f);
        return ((exponent + 127) << 23) | behindPoint;
    }

    /** A smithy with its bellows, its hearth and its account. */
    private static final class Smithy {
        int mile;
        int size;
        int wear;
        int heat;
        int coldDays;
        int debt;
        int paid;
        int mends;

        void beginAt(int newMile, int newSize) {
            mile = newMile;
            size = newSize;
            wear = 0;
            heat = MOST_HEAT;
            coldDays = 0;
            debt = 0;
            paid = 0;
            mends = 0;
        }

        void copyFrom(Smithy other) {
            mile = other.mile;
            size = other.size;
            wear = other.wear;
            heat = other.heat;
            coldDays = other.coldDays;
            debt = other.debt;
            paid = other.paid;
            mends = other.mends;
        }

        int leatherOfMend(boolean byHide) {
            return byHide ? 4 * size : tensBegun(wear);
        }

        int wearBehindMend(boolean byHide) {
            return byHide ? 0 : wear / 3;
        }
    }

    /** All that a change may change and undo brings back: the smithies, the mender and the settings. */
    private static final class State {
        final Smithy[] smithies = new Smithy[MOST_SMITHIES];
        int smithyCount;
        int cold = 30;
        int hours = 10;
        int rate = 4;
        int patience = 60;
        int day;
        int mile;
        int hoursLeft = hours;
        int leather;
        int money = 100;
        int paidForLeather;
        int owedForMends;
        int longestCold;
        int milesWalked;

        State() {
            for (int i = 0; i < smithies.length; i++) {
                smithies[i] = new Smithy();
            }
        }

        void copyFrom(State other) {
            smithyCount = other.smithyCount;
            cold = other.cold;
            hours = other.hours;
            rate = other.rate;
            patience = other.patience;
            day = other.day;
            mile = other.mile;
            hoursLeft = other.hoursLeft;
            leather = other.leather;
            money = other.money;
            paidForLeather = other.paidForLeather;
            owedForMends = other.owedForMends;
            longestCold = other.longestCold;
            milesWalked = other.milesWalked;
            for (int i = 0; i < smithyCount; i++) {
                Smithy mine = find(i);
                Smithy theirs = other.find(i);
                if (mine != null && theirs != null) {
                    mine.copyFrom(theirs);
                }
            }
        }

        /** The smithy with a number, or null if there is none. */
        Smithy find(int number) {
            if (number < 0 || number >= smithyCount || number >= smithies.length) {
                return null;
            }
            return smithies[number];
        }

        // ---- changes: each returns its answer, or an error before it has changed anything

        int addSmithy(int newMile, int newSize) {
            if (newMile < 0 || newMile > MOST_MILE || newSize < 1 || newSize > MOST_SIZE) {
                return INVALID_ARGUMENT;
            }
            if (smithyCount >= MOST_SMITHIES) {
                return LIMIT_REACHED;
            }
            int number = smithyCount;
            smithyCount++;
            // The row may still hold a smithy that undo has taken away.
            Smithy added = find(number);
            if (added != null) {
                added.beginAt(newMile, newSize);
            }
            return number;
        }

        int walkTo(int to) {
            if (to < 0 || to > MOST_MILE) {
                return INVALID_ARGUMENT;
            }
            int hoursNeeded = hoursOfWay(mile, to);
            if (hoursNeeded > hoursLeft) {
                return NOT_POSSIBLE;
            }
            hoursLeft -= hoursNeeded;
            milesWalked += Math.abs(to - mile);
            mile = to;
            return hoursLeft;
        }

        int buyLeather(int much) {
            if (much < 1 || much > MOST_LEATHER) {
                return INVALID_ARGUMENT;
            }
            if (mile != 0) {
                return NOT_POSSIBLE;
            }
            if (leather + much > MOST_LEATHER) {
                return LIMIT_REACHED;
            }
            int price = 2 * much;
            leather += much;
            money -= price;
            paidForLeather += price;
            return leather;
        }

        /** The wear behind a mend by patches; the debt behind one by a whole hide. */
        int mendBellows(int number, boolean byHide) {
            Smithy smithy = find(number);
            if (smithy == null) {
                return INVALID_ARGUMENT;
            }
            if (reasonAgainst(smithy, byHide) != CAN_BE_MENDED) {
                return NOT_POSSIBLE;
            }
            int price = priceOfMend(smithy, byHide);
            hoursLeft -= hoursOfMend(byHide);
            leather -= smithy.leatherOfMend(byHide);
            owedForMends += price;
            smithy.debt += price;
            smithy.wear = smithy.wearBehindMend(byHide);
            smithy.mends++;
            return byHide ? smithy.debt : smithy.wear;
        }

        int collectDebt(int number) {
            Smithy smithy = find(number);
            if (smithy == null) {
                return INVALID_ARGUMENT;
            }
            if (smithy.mile != mile || smithy.debt <= 0) {
                return NOT_POSSIBLE;
            }
            int pays = isCold(smithy.heat) ? smithy.debt / 2 : smithy.debt;
            smithy.debt -= pays;
            smithy.paid += pays;
            money += pays;
            return pays;
        }

        int endDays(int days) {
            if (days < 1 || days > MOST_DAYS_AT_ONCE) {
                return INVALID_ARGUMENT;
            }
            if (day + days > MOST_DAY) {
                return LIMIT_REACHED;
            }
            for (int i = 0; i < smithyCount; i++) {
                Smithy smithy = find(i);
                for (int ended = 0; ended < days && smithy != null; ended++) {
                    endDayOf(smithy);
                }
            }
            day += days;
            hoursLeft = hours;
            return Integer.bitCount(coldSet());
        }

        private void endDayOf(Smithy smithy) {
            smithy.wear = wearBehindDay(smithy.wear, smithy.size);
            smithy.heat = heatBehindDay(smithy.heat, smithy.wear);
            smithy.coldDays = isCold(smithy.heat) ? smithy.coldDays + 1 : 0;
            longestCold = Math.max(longestCold, smithy.coldDays);
        }

        int changeSetting(int what, int value) {
            if (!isInRange(what, value)) {
                return INVALID_ARGUMENT;
            }
            int was;
            switch (what) {
                case COLD:
                    was = cold;
                    cold = value;
                    return was;
                case HOURS:
                    was = hours;
                    hours = value;
                    return was;
                case RATE:
                    was = rate;
                    rate = value;
                    return was;
                default:
                    was = patience;
                    patience = value;
                    return was;
            }
        }

        private static boolean isInRange(int what, int value) {
            switch (what) {
                case COLD: return value >= 1 && value <= 99;
                case HOURS: return value >= 1 && value <= 24;
                case RATE: return value >= 0 && value <= 20;
                case PATIENCE: return value >= 0 && value <= 500;
                default: return false;
            }
        }

        int doOrder(int letter, int number) {
            switch (letter) {
                case 'w': return walkTo(number);
                case 'b': return buyLeather(number);
                case 'p': return mendBellows(number, false);
                case 'h': return mendBellows(number, true);
                case 'c': return collectDebt(number);
                case 'd': return endDays(number);
                default: return INVALID_ARGUMENT;
            }
        }

        // ---- what there is

        boolean isCold(int heat) {
            return heat < cold;
        }

        int coldSet() {
            int set = 0;
            for (int i = 0; i < smithyCount; i++) {
                Smithy smithy = find(i);
                if (smithy != null && isCold(smithy.heat)) {
                    set |= 1 << i;
                }
            }
            return set;
        }

        int wearTogether() {
            int sum = 0;
            for (int i = 0; i < smithyCount; i++) {
                Smithy smithy = find(i);
                if (smithy != null) {
                    sum += smithy.wear;
                }
            }
            return sum;
        }

        int debtsTogether() {
            int sum = 0;
            for (int i = 0; i < smithyCount; i++) {
                Smithy smithy = find(i);
                if (smithy != null) {
                    sum += smithy.debt;
                }
            }
            return sum;
        }

        int priceOfMend(Smithy smithy, boolean byHide) {
            return rate * hoursOfMend(byHide) + 3 * smithy.leatherOfMend(byHide);
        }

        int reasonAgainst(Smithy smithy, boolean byHide) {
            if (smithy.mile != mile) {
                return NOT_THERE;
            }
            if (hoursOfMend(byHide) > hoursLeft) {
                return TOO_FEW_HOURS;
            }
            if (smithy.leatherOfMend(byHide) > leather) {
                return TOO_LITTLE_LEATHER;
            }
            return reasonOfSmithy(smithy);
        }

        /** The reasons that lie with the smithy alone, not with the mender. */
        private int reasonOfSmithy(Smithy smithy) {
            if (smithy.debt > patience) {
                return TOO_MUCH_DEBT;
            }
            return smithy.wear == 0 ? NO_WEAR : CAN_BE_MENDED;
        }

        // ---- what would be

        /** After how many days the hearth is cold if nothing is mended: 0 if it is now, or NEVER_COLD. */
        int coldDaysAhead(Smithy smithy) {
            int wear = smithy.wear;
            int heat = smithy.heat;
            if (isCold(heat)) {
                return 0;
            }
            for (int days = 1; days <= DAYS_AHEAD; days++) {
                wear = wearBehindDay(wear, smithy.size);
                heat = heatBehindDay(heat, wear);
                if (isCold(heat)) {
                    return days;
                }
            }
            return NEVER_COLD;
        }

        int smithyToBeNext() {
            int best = NOT_FOUND;
            Smithy bestSmithy = null;
            for (int i = 0; i < smithyCount; i++) {
                Smithy smithy = find(i);
                if (smithy != null && smithy.wear > 0
                        && (bestSmithy == null || comesBefore(smithy, bestSmithy))) {
                    best = i;
                    bestSmithy = smithy;
                }
            }
            return best;
        }

        private boolean comesBefore(Smithy smithy, Smithy other) {
            int days = coldDaysAhead(smithy);
            int otherDays = coldDaysAhead(other);
            if (days != otherDays) {
                return days < otherDays;
            }
            if (smithy.wear != other.wear) {
                return smithy.wear > other.wear;
            }
            return Math.abs(smithy.mile - mile) < Math.abs(other.mile - mile);
        }

        int tellRound(int set, int what) {
            int hoursUsed = 0;
            int leatherUsed = 0;
            int owed = 0;
            int place = mile;
            int left = set;
            for (int i = 0; i < MOST_SMITHIES && left != 0; i++) {
                int number = firstOnRoad(left);
                Smithy smithy = find(number);
                if (smithy == null) {
                    return INVALID_ARGUMENT;
                }
                left &= ~(1 << number);
                hoursUsed += hoursOfWay(place, smithy.mile);
                place = smithy.mile;
                if (reasonOfSmithy(smithy) == CAN_BE_MENDED) {
                    hoursUsed += hoursOfMend(false);
                    leatherUsed += smithy.leatherOfMend(false);
                    owed += priceOfMend(smithy, false);
                }
            }
            return what == 0 ? hoursUsed : what == 1 ? leatherUsed : owed;
        }

        /** The smithy of a set with the least mile, of several the lowest; -1 if the set holds none. */
        private int firstOnRoad(int set) {
            int first = -1;
            int leastMile = MOST_MILE + 1;
            for (int i = 0; i < smithyCount; i++) {
                Smithy smithy = find(i);
                if (smithy != null && (set & (1 << i)) != 0 && smithy.mile < leastMile) {
                    first = i;
                    leastMile = smithy.mile;
                }
            }
            return first;
        }
    }

    /** The text, and the order in it that was read latest. */
    private static final class OrderText {
        final char[] characters = new char[MOST_CHARACTERS];
        int length;
        int letter;
        int number;
        int behind;
        int brokenAt;

        int append(char character) {
            if (length < 0 || length >= characters.length) {
                return LIMIT_REACHED;
            }
            characters[length] = character;
            length++;
            return length;
        }

        /** The character at a position, or -1 where the text has none. */
        private int characterAt(int position) {
            if (position < 0 || position >= length || position >= characters.length) {
                return -1;
            }
            return characters[position];
        }

        /** Reads the order that begins at a position; false if it is not of the form, and brokenAt tells where. */
        boolean readOrder(int start) {
            letter = characterAt(start);
            if (!isOrderLetter(letter)) {
                brokenAt = 0;
                return false;
            }
            number = 0;
            int digits = 0;
            while (digits < MOST_DIGITS && isDigit(characterAt(start + 1 + digits))) {
                number = number * 10 + characterAt(start + 1 + digits) - '0';
                digits++;
            }
            if (digits == 0 || characterAt(start + 1 + digits) != ';') {
                brokenAt = 1 + digits;
                return false;
            }
            behind = start + 2 + digits;
            return true;
        }

        private static boolean isOrderLetter(int character) {
            switch (character) {
                case 'w':
                case 'b':
                case 'p':
                case 'h':
                case 'c':
                case 'd':
                    return true;
                default:
                    return false;
            }
        }

        private static boolean isDigit(int character) {
            return character >= '0' && character <= '9';
        }
    }
}
