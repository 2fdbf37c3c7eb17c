import java.util.ArrayDeque;
import java.util.ArrayList;
import java.util.Comparator;
import java.util.Deque;
import java.util.List;
import java.util.Random;
import java.util.TreeMap;
import java.util.regex.Matcher;
import java.util.regex.Pattern;

/**
 * Long runs of calls, made up with fixed seeds, against a second program that is written from the document with
 * other means: whatever the class answers otherwise, or throws, is told with the run's calls.
 */
public final class ModelTest {
    private static final int RUNS = 4000;
    private static final int CALLS = 512;

    public static void main(String[] args) {
        TreeMap<String, Integer> answered = new TreeMap<>();
        for (int seed = 0; seed < RUNS; seed++) {
            if (!run(seed, answered)) {
                System.exit(1);
            }
        }
        // A run that never comes to an answer tests nothing of it.
        String[] needed = {
            "smithy ok", "smithy INVALID", "smithy LIMIT", "walk ok", "walk INVALID", "walk NOT_POSSIBLE", "buy ok",
            "buy INVALID", "buy NOT_POSSIBLE", "buy LIMIT", "patch ok", "patch INVALID", "patch NOT_POSSIBLE", "hide ok",
            "hide INVALID", "hide NOT_POSSIBLE", "collect ok", "collect INVALID", "collect NOT_POSSIBLE", "end ok",
            "end INVALID", "end LIMIT", "set ok", "set INVALID", "why ok", "why INVALID", "mend ok", "mend INVALID",
            "coldIn ok", "coldIn INVALID", "next ok", "next NOT_FOUND", "round ok", "round INVALID", "mean ok",
            "mean NOT_FOUND", "count ok", "count INVALID", "undo ok", "undo NOT_POSSIBLE", "type ok", "type INVALID",
            "type LIMIT", "clearText ok", "fault ok", "fault INVALID", "fault NOT_FOUND", "fault NOT_POSSIBLE",
            "fault LIMIT", "play ok", "play NOT_POSSIBLE", "smithyOf ok", "smithyOf INVALID"};
        boolean all = true;
        for (String one : needed) {
            if (!answered.containsKey(one)) {
                System.out.println("no run came to: " + one);
                all = false;
            }
        }
        if (!all) {
            System.exit(1);
        }
    }

    private static boolean run(int seed, TreeMap<String, Integer> answered) {
        Random random = new Random(seed);
        BellowsRound x = new BellowsRound();
        Model model = new Model();
        Calls calls = new Calls(random, seed);
        List<String> told = new ArrayList<>();
        for (int i = 0; i < CALLS; i++) {
            Call call = calls.next(model);
            int want = model.answer(call);
            int got;
            try {
                got = call.on(x);
            } catch (RuntimeException thrown) {
                told.add(call + " threw " + thrown + ", due is " + want);
                return tell(seed, told);
            }
            told.add(call + " answered " + got + ", due is " + want);
            if (got != want) {
                return tell(seed, told);
            }
            answered.merge(call.name + " " + kind(want), 1, Integer::sum);
        }
        return true;
    }

    private static boolean tell(int seed, List<String> told) {
        System.out.println("run of the seed " + seed + ":");
        for (String line : told) {
            System.out.println("  " + line);
        }
        return false;
    }

    private static String kind(int answer) {
        switch (answer) {
            case Model.INVALID: return "INVALID";
            case Model.NOT_POSSIBLE: return "NOT_POSSIBLE";
            case Model.LIMIT: return "LIMIT";
            case Model.NOT_FOUND: return "NOT_FOUND";
            default: return "ok";
        }
    }

    /** One call with up to three arguments. */
    private static final class Call {
        final String name;
        final int[] with;

        Call(String name, int... with) {
            this.name = name;
            this.with = with;
        }

        int on(BellowsRound x) {
            switch (name) {
                case "smithy": return x.smithy(with[0], with[1]);
                case "walk": return x.walk(with[0]);
                case "buy": return x.buy(with[0]);
                case "patch": return x.patch(with[0]);
                case "hide": return x.hide(with[0]);
                case "collect": return x.collect(with[0]);
                case "end": return x.end(with[0]);
                case "set": return x.set(with[0], with[1]);
                case "smithyOf": return x.smithyOf(with[0], with[1]);
                case "why": return x.why(with[0], with[1]);
                case "mend": return x.mend(with[0], with[1], with[2]);
                case "coldIn": return x.coldIn(with[0]);
                case "next": return x.next();
                case "round": return x.round(with[0], with[1]);
                case "mean": return x.mean();
                case "count": return x.count(with[0]);
                case "undo": return x.undo();
                case "type": return x.type(with[0]);
                case "clearText": return x.clearText();
                case "fault": return x.fault(with[0]);
                case "play": return x.play();
                default: throw new AssertionError(name);
            }
        }

        @Override
        public String toString() {
            StringBuilder text = new StringBuilder(name).append('(');
            for (int i = 0; i < with.length; i++) {
                text.append(i == 0 ? "" : ", ").append(with[i]);
            }
            return text.append(')').toString();
        }
    }

    /** Makes calls up, most of them sensible where the model stands. */
    private static final class Calls {
        private static final String[] NAMES = {
            "walk", "walk", "walk", "buy", "buy", "patch", "patch", "patch", "patch", "hide", "hide", "collect", "collect",
            "end", "end", "set", "smithyOf", "smithyOf", "smithyOf", "smithyOf", "why", "why", "mend", "mend", "coldIn",
            "coldIn", "next", "next", "round", "round", "round", "mean", "count", "count", "count", "count", "undo",
            "order", "order", "clearText", "fault", "fault", "fault", "play"};

        private final Random random;
        private final int smithies;
        private final boolean longDays;
        private final boolean longTexts;
        private final Deque<Call> waiting = new ArrayDeque<>();

        Calls(Random random, int seed) {
            this.random = random;
            this.smithies = seed % 10;
            this.longDays = seed % 7 == 0;
            this.longTexts = seed % 3 == 0;
        }

        Call next(Model model) {
            if (!waiting.isEmpty()) {
                return waiting.poll();
            }
            if (model.smithies.size() < smithies && random.nextInt(6) == 0) {
                return new Call("smithy", argument(-1, 100), argument(0, 10));
            }
            if (random.nextInt(60) == 0) {
                return new Call("smithy", argument(-1, 100), argument(0, 10));
            }
            String name = longDays && random.nextInt(3) == 0 ? "end" : NAMES[random.nextInt(NAMES.length)];
            return call(name, model);
        }

        private Call call(String name, Model model) {
            switch (name) {
                case "walk": return new Call(name, mile(model));
                case "buy": return new Call(name, random.nextInt(4) == 0 ? argument(0, 1000) : argument(0, 60));
                case "patch": case "hide": case "collect": return new Call(name, smithyNear(model));
                case "coldIn": return new Call(name, smithy(model));
                case "end": return new Call(name, longDays ? argument(90, 100) : argument(0, 8));
                case "set": return setting();
                case "smithyOf": return new Call(name, smithy(model), argument(-1, 11));
                case "why": return new Call(name, smithyNear(model), argument(random.nextInt(9) == 0 ? -1 : 0, 1));
                case "mend": return new Call(name, smithy(model), argument(random.nextInt(9) == 0 ? -1 : 0, 1), argument(-1, 4));
                case "round": return new Call(name, argument(0, 1 << model.smithies.size()), argument(-1, 3));
                case "count": return new Call(name, argument(-1, 24));
                case "fault": return new Call(name, argument(-1, 3));
                case "order": return order(model);
                default: return new Call(name);
            }
        }

        /** A number of a range, seldom one far out of it. */
        private int argument(int from, int to) {
            if (random.nextInt(80) == 0) {
                return random.nextInt();
            }
            return from + random.nextInt(to - from + 1);
        }

        private int mile(Model model) {
            int kind = random.nextInt(10);
            if (kind < 4) {
                return 0;
            }
            if (kind < 8 && !model.smithies.isEmpty()) {
                return model.smithies.get(random.nextInt(model.smithies.size())).mile;
            }
            return kind == 8 ? argument(-1, 100) : argument(Math.max(0, model.mile - 12), Math.min(99, model.mile + 12));
        }

        private int smithy(Model model) {
            return random.nextInt(12) == 0 ? argument(-1, 9) : argument(0, Math.max(0, model.smithies.size() - 1));
        }

        private int smithyNear(Model model) {
            for (int tries = 0; tries < 4; tries++) {
                int number = smithy(model);
                if (number >= 0 && number < model.smithies.size() && model.smithies.get(number).mile == model.mile) {
                    return number;
                }
            }
            return smithy(model);
        }

        private Call setting() {
            int[] most = {99, 24, 20, 500};
            int what = argument(-1, 4);
            if (what < 0 || what > 3) {
                return new Call("set", what, argument(0, 30));
            }
            return new Call("set", what, argument(random.nextInt(8) == 0 ? -1 : 0, random.nextInt(3) == 0 ? most[what] + 1 : 20));
        }

        /** An order that is typed character by character. */
        private Call order(Model model) {
            StringBuilder text = new StringBuilder();
            char letter = "wbphcd".charAt(random.nextInt(6));
            int number = letter == 'w' ? mile(model)
                    : letter == 'b' ? 1 + random.nextInt(40)
                    : letter == 'd' ? (longDays ? 99 : 1 + random.nextInt(9))
                    : random.nextInt(Math.max(1, model.smithies.size()));
            text.append(letter).append(random.nextInt(8) == 0 ? "0" : "").append(Math.abs(number % 1000)).append(';');
            if (random.nextInt(9) == 0) {
                int at = random.nextInt(text.length());
                char other = "w;d09: b1~/".charAt(random.nextInt(11));
                switch (random.nextInt(3)) {
                    case 0: text.setCharAt(at, other); break;
                    case 1: text.insert(at, other); break;
                    default: text.deleteCharAt(at);
                }
            }
            for (int i = 0; i < text.length(); i++) {
                waiting.add(new Call("type", text.charAt(i)));
            }
            waiting.add(random.nextInt(3) == 0 ? new Call("play") : new Call("fault", random.nextInt(3)));
            if (random.nextInt(12) == 0) {
                waiting.addFirst(new Call("type", argument(30, 128)));
            }
            if (random.nextInt(longTexts ? 20 : 4) == 0) {
                waiting.addFirst(new Call("clearText"));
            }
            return waiting.poll();
        }
    }

    private static final class Place {
        int mile;
        int size;
        int wear;
        int heat = 100;
        int cold;
        int debt;
        int paid;
        int mends;

        Place twin() {
            Place twin = new Place();
            twin.mile = mile;
            twin.size = size;
            twin.wear = wear;
            twin.heat = heat;
            twin.cold = cold;
            twin.debt = debt;
            twin.paid = paid;
            twin.mends = mends;
            return twin;
        }

        void day() {
            wear += size / 2 + 1;
            if (wear > 100) {
                wear = 100;
            }
            heat += wear < 10 ? 10 : -(wear / 10) * 2;
            if (heat > 100) {
                heat = 100;
            }
            if (heat < 0) {
                heat = 0;
            }
        }
    }

    /** The document again, by copies of whole states. */
    private static final class Model {
        static final int INVALID = -1000000001;
        static final int NOT_POSSIBLE = -1000000002;
        static final int LIMIT = -1000000003;
        static final int NOT_FOUND = -1000000004;
        static final Pattern ORDER = Pattern.compile("([wbphcd])([0-9]{1,3});");

        List<Place> smithies = new ArrayList<>();
        int[] settings = {30, 10, 4, 60};
        int day;
        int mile;
        int hours = 10;
        int leather;
        int money = 100;
        int forLeather;
        int forMends;
        int longest;
        int walked;
        Deque<Model> history = new ArrayDeque<>();
        String text = "";

        Model twin() {
            Model twin = new Model();
            twin.take(this);
            return twin;
        }

        /** All but the history and the text. */
        void take(Model other) {
            smithies = new ArrayList<>();
            for (Place place : other.smithies) {
                smithies.add(place.twin());
            }
            settings = other.settings.clone();
            day = other.day;
            mile = other.mile;
            hours = other.hours;
            leather = other.leather;
            money = other.money;
            forLeather = other.forLeather;
            forMends = other.forMends;
            longest = other.longest;
            walked = other.walked;
        }

        int answer(Call call) {
            switch (call.name) {
                case "smithy": case "walk": case "buy": case "patch": case "hide": case "collect": case "end": case "set":
                case "play":
                    Model before = twin();
                    int answer = call.name.equals("play") ? play() : change(call.name, call.with);
                    if (answer <= INVALID) {
                        return answer;
                    }
                    history.push(before);
                    if (history.size() == 5) {
                        history.removeLast();
                    }
                    return answer;
                default:
                    return ask(call.name, call.with);
            }
        }

        private int change(String name, int... with) {
            switch (name) {
                case "smithy": return smithy(with[0], with[1]);
                case "walk": return walk(with[0]);
                case "buy": return buy(with[0]);
                case "patch": return mended(with[0], false);
                case "hide": return mended(with[0], true);
                case "collect": return collect(with[0]);
                case "end": return end(with[0]);
                case "set": return set(with[0], with[1]);
                default: throw new AssertionError(name);
            }
        }

        private int smithy(int at, int size) {
            if (at < 0 || at > 99 || size < 1 || size > 9) {
                return INVALID;
            }
            if (smithies.size() == 8) {
                return LIMIT;
            }
            Place place = new Place();
            place.mile = at;
            place.size = size;
            smithies.add(place);
            return smithies.size() - 1;
        }

        private static int way(int from, int to) {
            return (int) Math.ceil(Math.abs(from - to) / 10.0);
        }

        private int walk(int to) {
            if (to < 0 || to > 99) {
                return INVALID;
            }
            if (way(mile, to) > hours) {
                return NOT_POSSIBLE;
            }
            hours -= way(mile, to);
            walked += Math.abs(mile - to);
            mile = to;
            return hours;
        }

        private int buy(int much) {
            if (much < 1 || much > 999) {
                return INVALID;
            }
            if (mile > 0) {
                return NOT_POSSIBLE;
            }
            if (leather + much > 999) {
                return LIMIT;
            }
            leather += much;
            money -= much + much;
            forLeather += much + much;
            return leather;
        }

        private boolean isNone(int number) {
            return number < 0 || number >= smithies.size();
        }

        private static int leatherFor(Place place, boolean hide) {
            return hide ? place.size * 4 : (int) Math.ceil(place.wear / 10.0);
        }

        private int price(Place place, boolean hide) {
            return (hide ? 3 : 1) * settings[2] + leatherFor(place, hide) * 3;
        }

        private int why(Place place, boolean hide) {
            List<Integer> reasons = new ArrayList<>();
            if (place.wear == 0) {
                reasons.add(5);
            }
            if (place.debt > settings[3]) {
                reasons.add(4);
            }
            if (leather < leatherFor(place, hide)) {
                reasons.add(3);
            }
            if (hours < (hide ? 3 : 1)) {
                reasons.add(2);
            }
            if (mile != place.mile) {
                reasons.add(1);
            }
            return reasons.stream().mapToInt(Integer::intValue).min().orElse(0);
        }

        private int mended(int number, boolean hide) {
            if (isNone(number)) {
                return INVALID;
            }
            Place place = smithies.get(number);
            if (why(place, hide) != 0) {
                return NOT_POSSIBLE;
            }
            place.debt += price(place, hide);
            forMends += price(place, hide);
            leather -= leatherFor(place, hide);
            hours -= hide ? 3 : 1;
            place.wear = hide ? 0 : place.wear / 3;
            place.mends++;
            return hide ? place.debt : place.wear;
        }

        private int collect(int number) {
            if (isNone(number)) {
                return INVALID;
            }
            Place place = smithies.get(number);
            if (place.mile != mile || place.debt == 0) {
                return NOT_POSSIBLE;
            }
            int pays = place.heat < settings[0] ? place.debt / 2 : place.debt;
            place.debt -= pays;
            place.paid += pays;
            money += pays;
            return pays;
        }

        private int end(int days) {
            if (days < 1 || days > 99) {
                return INVALID;
            }
            if (day > 9999 - days) {
                return LIMIT;
            }
            for (int i = 0; i < days; i++) {
                day++;
                for (Place place : smithies) {
                    place.day();
                    place.cold = place.heat < settings[0] ? place.cold + 1 : 0;
                    longest = Math.max(longest, place.cold);
                }
            }
            hours = settings[1];
            return (int) smithies.stream().filter(place -> place.heat < settings[0]).count();
        }

        private int set(int what, int value) {
            int[][] ranges = {{1, 99}, {1, 24}, {0, 20}, {0, 500}};
            if (what < 0 || what > 3 || value < ranges[what][0] || value > ranges[what][1]) {
                return INVALID;
            }
            int was = settings[what];
            settings[what] = value;
            return was;
        }

        /** Position, reason, cause; or null if there is no fault, and this has changed then. */
        private int[] runText(String orders) {
            Matcher matcher = ORDER.matcher(orders);
            int at = 0;
            while (at < orders.length()) {
                matcher.region(at, orders.length());
                if (!matcher.lookingAt()) {
                    return new int[] {at, 1, breaksOff(orders.substring(at))};
                }
                String name = List.of("walk", "buy", "patch", "hide", "collect", "end").get("wbphcd".indexOf(matcher.group(1)));
                int answer = change(name, Integer.parseInt(matcher.group(2)));
                if (answer <= INVALID) {
                    return new int[] {at, 2, answer};
                }
                at = matcher.end();
            }
            return null;
        }

        /** How long the longest beginning is that an order can have. */
        private static int breaksOff(String order) {
            Pattern beginning = Pattern.compile("(|[wbphcd][0-9]{0,3})");
            int length = 0;
            for (int i = 0; i <= order.length(); i++) {
                if (beginning.matcher(order.substring(0, i)).matches()) {
                    length = i;
                }
            }
            return length;
        }

        private int play() {
            if (twin().runText(text) != null) {
                return NOT_POSSIBLE;
            }
            runText(text);
            return (int) text.chars().filter(c -> c == ';').count();
        }

        private int ask(String name, int... with) {
            switch (name) {
                case "smithyOf": return isNone(with[0]) ? INVALID : smithyOf(smithies.get(with[0]), with[1]);
                case "why": return isNone(with[0]) || with[1] < 0 || with[1] > 1 ? INVALID : why(smithies.get(with[0]), with[1] == 1);
                case "mend": return mend(with[0], with[1], with[2]);
                case "coldIn":
                    return isNone(with[0]) ? INVALID : coldIn(with[0]) > 200 ? NOT_FOUND : coldIn(with[0]);
                case "next": return next();
                case "round": return round(with[0], with[1]);
                case "mean": return mean();
                case "count": return count(with[0]);
                case "undo":
                    if (history.isEmpty()) {
                        return NOT_POSSIBLE;
                    }
                    take(history.pop());
                    return history.size();
                case "type":
                    if (with[0] < 32 || with[0] > 126) {
                        return INVALID;
                    }
                    if (text.length() >= 60) {
                        return LIMIT;
                    }
                    text = text + (char) with[0];
                    return text.length();
                case "clearText":
                    int had = text.length();
                    text = "";
                    return had;
                case "fault":
                    if (with[0] < 0 || with[0] > 2) {
                        return INVALID;
                    }
                    int[] fault = twin().runText(text);
                    return fault == null ? NOT_FOUND : fault[with[0]];
                default: throw new AssertionError(name);
            }
        }

        private int smithyOf(Place place, int what) {
            int[] values = {place.mile, place.size, place.wear, place.wear / 10, place.heat, place.heat < settings[0] ? 1 : 0,
                place.cold, place.debt, place.paid, place.mends, way(place.mile, mile)};
            return what < 0 || what >= values.length ? INVALID : values[what];
        }

        private int mend(int number, int hide, int what) {
            if (isNone(number) || (hide != 0 && hide != 1) || what < 0 || what > 3) {
                return INVALID;
            }
            Place place = smithies.get(number);
            int[] values = {hide == 1 ? 3 : 1, leatherFor(place, hide == 1), price(place, hide == 1),
                hide == 1 ? 0 : place.wear / 3};
            return values[what];
        }

        /** By ending days of a twin; 201 if it is never. */
        private int coldIn(int number) {
            Place place = smithies.get(number).twin();
            int days = 0;
            while (place.heat >= settings[0] && days <= 200) {
                place.day();
                days++;
            }
            return days;
        }

        private int next() {
            List<Integer> worn = new ArrayList<>();
            for (int i = 0; i < smithies.size(); i++) {
                if (smithies.get(i).wear > 0) {
                    worn.add(i);
                }
            }
            worn.sort(Comparator.<Integer>comparingInt(this::coldIn).thenComparingInt(i -> -smithies.get(i).wear)
                    .thenComparingInt(i -> Math.abs(smithies.get(i).mile - mile)).thenComparingInt(i -> i));
            return worn.isEmpty() ? NOT_FOUND : worn.get(0);
        }

        private int round(int set, int what) {
            if (set <= 0 || set > (1 << smithies.size()) - 1 || what < 0 || what > 2) {
                return INVALID;
            }
            List<Place> places = new ArrayList<>();
            for (int i = 0; i < smithies.size(); i++) {
                if ((set >> i) % 2 == 1) {
                    places.add(smithies.get(i));
                }
            }
            places.sort(Comparator.comparingInt(place -> place.mile));
            int[] sums = new int[3];
            int at = mile;
            for (Place place : places) {
                sums[0] += way(at, place.mile);
                at = place.mile;
                if (place.wear > 0 && place.debt <= settings[3]) {
                    sums[0]++;
                    sums[1] += leatherFor(place, false);
                    sums[2] += price(place, false);
                }
            }
            return sums[what];
        }

        private int mean() {
            int sum = smithies.stream().mapToInt(place -> place.wear).sum();
            return smithies.isEmpty() ? NOT_FOUND : Float.floatToIntBits((float) sum / (float) smithies.size());
        }

        private int count(int what) {
            int cold = 0;
            for (int i = 0; i < smithies.size(); i++) {
                cold += smithies.get(i).heat < settings[0] ? 1 << i : 0;
            }
            int[] values = {smithies.size(), day, mile, hours, leather, money,
                smithies.stream().mapToInt(place -> place.debt).sum(), forLeather, forMends, cold, longest, walked,
                history.size(), text.length()};
            if (what >= 20 && what <= 23) {
                return settings[what - 20];
            }
            return what < 0 || what >= values.length ? INVALID : values[what];
        }
    }
}
