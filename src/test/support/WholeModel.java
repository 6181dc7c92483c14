import java.math.BigInteger;
import java.util.ArrayList;
import java.util.List;
import java.util.TreeSet;
import java.util.stream.IntStream;

/**
 * The whole document read once more, from its first line, in the plainest way: what may be tried is tried on a copy, what
 * may be counted is counted one by one. A call is asked by its name; a boolean counts 1 or 0.
 */
final class WholeModel {
    static final long NONE = -1;

    /** A call that can't be answered. */
    private static final class Refused extends RuntimeException {
        private static final long serialVersionUID = 1;
        final int status;

        Refused(int why) {
            super(null, null, false, false);
            status = why;
        }
    }

    /** A STREET, all that became of it, and its YEARS. */
    private static final class State {
        // WIDE, told WIDE, the set is asked of the PEOPLE, lost.
        final List<int[]> houses = new ArrayList<>();
        // HOUSE, TEMPER, HEARS, VOICE, PAY, ANGER, SHOUTS.
        final List<int[]> people = new ArrayList<>();
        // The latest first: DAY, WALL, who, to whom, SHOUTS, feet to the right, halved.
        final List<int[]> quarrels = new ArrayList<>();
        final TreeSet<Integer> peace = new TreeSet<>();
        int foot = 1;
        int calm = 2;
        int odds = 4;
        int day;
        int said;
        int shouts;
        boolean rain;
        TextModel names = new TextModel();
        List<TextModel.Step> years;

        State copy() {
            State copy = new State();
            houses.forEach(row -> copy.houses.add(row.clone()));
            people.forEach(row -> copy.people.add(row.clone()));
            quarrels.forEach(row -> copy.quarrels.add(row.clone()));
            copy.peace.addAll(peace);
            copy.foot = foot;
            copy.calm = calm;
            copy.odds = odds;
            copy.day = day;
            copy.said = said;
            copy.shouts = shouts;
            copy.rain = rain;
            copy.names = names;
            copy.years = years;
            return copy;
        }

        int place(int wall, int told) {
            int feet = 0;
            for (int house = 0; house <= wall; house++) {
                feet += houses.get(house)[told];
            }
            return feet;
        }

        boolean areNeighbours(int one, int other) {
            int here = people.get(one)[0];
            int there = people.get(other)[0];
            return (here == there + 1 || there == here + 1) && !peace.contains(Math.min(here, there));
        }

        int loud(int voice) {
            return rain ? Math.max(0, voice - 2) : voice;
        }

        /** One is told something by another: how many SHOUTS there are, with those ahead. */
        private int tell(int teller, int hearer, int loud, int ahead) {
            int[] him = people.get(hearer);
            if (loud + him[2] < 10) {
                return ahead;
            }
            him[5] += loud;
            if (him[5] <= him[1]) {
                return ahead;
            }
            him[5] = 0;
            him[6]++;
            int[] his = houses.get(him[0]);
            int[] others = houses.get(people.get(teller)[0]);
            int feet = Math.min(foot, his[0]);
            his[0] -= feet;
            his[3] += feet;
            others[0] += feet;
            return ahead == 5 ? 6 : tell(hearer, teller, loud(9), ahead + 1);
        }

        int say(int one, int other) {
            int wall = Math.min(people.get(one)[0], people.get(other)[0]);
            int from = place(wall, 0);
            int many = tell(one, other, loud(people.get(one)[3]), 0);
            said++;
            shouts += many;
            if (many > 0) {
                quarrels.add(0, new int[] {day, wall, one, other, many, place(wall, 0) - from, 0});
                if (quarrels.size() > 20) {
                    quarrels.remove(20);
                }
            }
            return many;
        }

        boolean canBeSorry(int k) {
            return quarrels.get(k)[0] == day && quarrels.get(k)[6] == 0;
        }

        int sorry(int k) {
            int[] quarrel = quarrels.get(k);
            quarrel[6] = 1;
            int half = Math.abs(quarrel[5]) / 2;
            int[] left = houses.get(quarrel[1]);
            int[] right = houses.get(quarrel[1] + 1);
            int[] gives = quarrel[5] > 0 ? left : right;
            int[] takes = quarrel[5] > 0 ? right : left;
            int feet = Math.min(half, gives[0]);
            gives[0] -= feet;
            takes[0] += feet;
            return feet;
        }

        void night() {
            for (int[] him : people) {
                him[5] = Math.max(0, him[5] - calm);
            }
            day++;
        }

        int angry() {
            int set = 0;
            for (int i = 0; i < people.size(); i++) {
                set |= people.get(i)[5] > 0 ? 1 << i : 0;
            }
            return set;
        }
    }

    /** One run through YEARS. */
    private static final class Life {
        final State state;
        long drawn;
        int done;
        int missed;
        int nights;
        int said;
        int shouts;
        boolean isLeft;
        boolean isOver;

        Life(State lived, long seed) {
            state = lived;
            drawn = seed;
            all(state.years);
        }

        private void all(List<TextModel.Step> steps) {
            for (TextModel.Step step : steps) {
                if (!isOver && done == 300) {
                    isLeft = true;
                    isOver = true;
                }
                if (isOver) {
                    return;
                }
                done++;
                one(step);
            }
        }

        private void one(TextModel.Step step) {
            switch (step.word) {
                case "say" -> say(step.one, step.other);
                case "sorry" -> {
                    if (state.quarrels.isEmpty() || !state.canBeSorry(0)) {
                        missed++;
                    } else {
                        state.sorry(0);
                    }
                }
                case "night" -> {
                    if (state.day + step.number > 9999) {
                        missed++;
                        return;
                    }
                    for (int i = 0; i < step.number; i++) {
                        state.night();
                        nights++;
                    }
                }
                case "rain", "dry" -> {
                    missed += state.rain == step.word.equals("rain") ? 1 : 0;
                    state.rain = step.word.equals("rain");
                }
                case "any" -> {
                    if (state.people.isEmpty()) {
                        missed++;
                        return;
                    }
                    state.rain = draw(16) < state.odds;
                    int one = draw(state.people.size());
                    int other = draw(state.people.size());
                    say(one, other);
                }
                case "when" -> {
                    if (holds(step)) {
                        all(step.inside);
                    }
                }
                case "loop" -> {
                    for (int i = 0; i < step.number; i++) {
                        all(step.inside);
                    }
                }
                default -> isOver = true;
            }
        }

        private void say(int one, int other) {
            if (!state.areNeighbours(one, other)) {
                missed++;
                return;
            }
            said++;
            shouts += state.say(one, other);
        }

        private int draw(int by) {
            drawn = (drawn * 3067 + 11287) % 65536;
            return (int) (drawn / 8 % by);
        }

        private boolean holds(TextModel.Step step) {
            if (step.test.equals("raining")) {
                return state.rain;
            }
            int is = step.test.equals("angry") ? state.people.get(step.one)[5] : state.houses.get(step.one)[0];
            return step.sign.equals("<") && is < step.number || step.sign.equals(">") && is > step.number
                    || step.sign.equals("=") && is == step.number;
        }
    }

    private final long[][] trays = new long[4][];
    private final int[] sorts = new int[4];
    private final List<State> marks = new ArrayList<>();
    private final StringBuilder tape = new StringBuilder();
    private State state = new State();
    private Life life;
    private int status;
    private long top;
    private long bottom = 1;
    private long faultKind = NONE;
    private long faultPlace = NONE;

    int people() {
        return state.people.size();
    }

    int houses() {
        return state.houses.size();
    }

    int quarrels() {
        return state.quarrels.size();
    }

    int foot() {
        return state.foot;
    }

    int[] neighboursOf(int person) {
        return IntStream.range(0, state.people.size()).filter(i -> state.areNeighbours(person, i)).toArray();
    }

    long call(String name, long... a) {
        switch (name) {
            case "status":
                return status;
            case "top":
                return top;
            case "bottom":
                return bottom;
            case "feed":
                return feed(a);
            case "fault":
                return a[0] == 0 ? faultKind : a[0] == 1 ? faultPlace : NONE;
            default:
                break;
        }
        boolean isTold = List.of("tray", "write", "pour", "rain", "peace", "change", "rule", "share", "wet", "mean").contains(name);
        try {
            long answer = switch (name) {
                case "tray", "write", "read", "pour", "copyWalls", "ways", "fewest", "blame" -> ofTrays(name, a);
                case "street", "years", "live", "lived", "mean", "mark", "undo", "wet", "share" -> ofYears(name, a);
                case "told", "house", "wall", "person", "quarrel", "near", "neighbours" -> tells(name, a);
                case "say", "sorry", "night", "rain", "peace", "move", "change", "rule", "survey", "soothe" -> does(name, a);
                default -> wouldBe(name, a);
            };
            status = 0;
            return answer;
        } catch (Refused refused) {
            status = refused.status;
            return isTold ? 0 : NONE;
        }
    }

    private static void need(int otherwise, boolean holds) {
        if (!holds) {
            throw new Refused(otherwise);
        }
    }

    private static boolean is(long number, long least, long most) {
        return least <= number && number <= most;
    }

    private static long one(boolean is) {
        return is ? 1 : 0;
    }

    private long feed(long[] a) {
        if (tape.length() > 880) {
            return NONE;
        }
        for (long four : a) {
            for (int shift : new int[] {24, 16, 8, 0}) {
                tape.append((char) (four >> shift & 255));
            }
        }
        return tape.length();
    }

    // ---- TRAYS

    private long[] tray(long tray) {
        need(2, trays[(int) tray] != null);
        return trays[(int) tray];
    }

    private long cut(long tray, long v) {
        return switch (sorts[(int) tray]) {
            case 0 -> (byte) v;
            case 1 -> (short) v;
            case 2 -> (int) v;
            default -> v;
        };
    }

    private long ofTrays(String name, long[] a) {
        need(1, is(a[0], 0, 3));
        int number = (int) a[0];
        switch (name) {
            case "tray":
                need(1, is(a[1], 0, 3) && is(a[2], 0, 60));
                trays[number] = new long[(int) a[2]];
                sorts[number] = (int) a[1];
                return 1;
            case "write":
                need(3, is(a[1], 0, tray(number).length - 1));
                trays[number][(int) a[1]] = cut(number, a[2]);
                return 1;
            case "read":
                need(3, is(a[1], 0, tray(number).length - 1));
                return trays[number][(int) a[1]];
            case "pour":
                return pour(a);
            case "copyWalls":
                int walls = Math.max(0, state.houses.size() - 1);
                need(3, tray(number).length >= walls);
                for (int wall = 0; wall < walls; wall++) {
                    trays[number][wall] = cut(number, state.place(wall, 0));
                }
                return walls;
            default:
                return ofPlaces(name, number, a[1]);
        }
    }

    private long pour(long[] a) {
        need(1, is(a[2], 0, 3) && a[1] >= 0 && a[3] >= 0 && a[4] >= 0);
        long[] from = tray(a[0]);
        long[] to = tray(a[2]);
        need(8, sorts[(int) a[0]] == sorts[(int) a[2]]);
        need(3, a[1] + a[4] <= from.length && a[3] + a[4] <= to.length);
        long[] as = from.clone();
        for (int i = 0; i < a[4]; i++) {
            to[(int) a[3] + i] = as[(int) a[1] + i];
        }
        return 1;
    }

    private long ofPlaces(String name, int number, long n) {
        need(1, is(n, 1, 12));
        need(3, tray(number).length >= n);
        long[] places = trays[number];
        for (int i = 0; i < n; i++) {
            need(5, places[i] >= 0);
        }
        if (name.equals("blame")) {
            return blame(places, 1, (int) n);
        }
        if (name.equals("ways")) {
            return ways(places, 1, (int) n);
        }
        need(6, ways(places, 1, (int) n) > 0);
        int few = 0;
        for (int i = 1; i < n; i++) {
            int fewest = 4;
            for (String row : rows(places[i] - places[i - 1])) {
                fewest = Math.min(fewest, row.length());
            }
            few += fewest;
        }
        return few;
    }

    /** The rows of SHOUTS of one DAY by which the WALL goes so far. */
    private List<String> rows(long feet) {
        List<String> rows = new ArrayList<>();
        for (String row : "- l r ll lr rl rr lll llr lrl lrr rll rlr rrl rrr".split(" ")) {
            long goes = 0;
            for (char side : row.toCharArray()) {
                goes += side == 'l' ? -state.foot : side == 'r' ? state.foot : 0;
            }
            if (goes == feet) {
                rows.add(row.equals("-") ? "" : row);
            }
        }
        return rows;
    }

    private long ways(long[] places, int from, int n) {
        long ways = 1;
        for (int i = from; i < n; i++) {
            ways *= rows(places[i] - places[i - 1]).size();
        }
        return ways;
    }

    private long blame(long[] places, int from, int n) {
        if (from >= n) {
            return 0;
        }
        long begun = 0;
        for (String row : rows(places[from] - places[from - 1])) {
            begun += row.isEmpty() ? blame(places, from + 1, n) : row.startsWith("l") ? ways(places, from + 1, n) : 0;
        }
        return begun;
    }

    // ---- texts, YEARS, MARKS, FRACTIONS

    private long ofYears(String name, long[] a) {
        switch (name) {
            case "street":
                need(1, is(a[0], 0, tape.length()));
                return text(true, (int) a[0]);
            case "years":
                need(1, is(a[0], 0, Math.min(300, tape.length())));
                return text(false, (int) a[0]);
            case "live":
                need(1, is(a[0], 0, 9999));
                need(6, state.years != null);
                life = new Life(state, a[0]);
                return life.done;
            case "lived":
                need(1, is(a[0], 0, 4));
                need(6, life != null);
                return new long[] {life.missed, life.nights, life.said, life.shouts, one(life.isLeft)}[(int) a[0]];
            case "mean":
                return mean(a);
            case "mark":
                need(4, marks.size() < 3);
                marks.add(state.copy());
                return marks.size();
            case "undo":
                need(6, !marks.isEmpty());
                state = marks.remove(marks.size() - 1);
                return marks.size();
            case "share":
                need(1, is(a[0], 0, state.houses.size() - 1));
                long land = state.place(state.houses.size() - 1, 0);
                need(6, land > 0);
                return fraction(BigInteger.valueOf(state.houses.get((int) a[0])[0]), BigInteger.valueOf(land));
            default:
                return wet(a);
        }
    }

    private long text(boolean isStreet, int n) {
        String text = tape.substring(0, n);
        tape.setLength(0);
        try {
            long answer = isStreet ? street(text) : years(text);
            faultKind = 0;
            faultPlace = NONE;
            return answer;
        } catch (TextModel.Fault fault) {
            faultKind = fault.kind;
            faultPlace = fault.place;
            throw new Refused(9);
        }
    }

    private long street(String text) {
        TextModel names = new TextModel();
        names.street(text);
        State taken = new State();
        taken.names = names;
        taken.foot = names.foot;
        taken.calm = names.calm;
        taken.odds = names.odds;
        for (int wide : names.wides) {
            taken.houses.add(new int[] {wide, wide, 0, 0});
        }
        for (int[] row : names.traits) {
            taken.people.add(new int[] {row[0], row[1], row[2], row[3], row[4], 0, 0});
        }
        for (int wall = 0; wall < 5; wall++) {
            if ((names.peace >> wall & 1) == 1) {
                taken.peace.add(wall);
            }
        }
        state = taken;
        return taken.people.size();
    }

    private long years(String text) {
        state.years = state.names.years(text);
        return state.names.steps;
    }

    private long mean(long[] a) {
        need(1, is(a[0], 0, state.houses.size() - 1) && is(a[1], 0, 9999) && is(a[2], 1, 20) && a[1] + a[2] - 1 <= 9999);
        need(6, state.years != null);
        long sum = 0;
        for (long seed = a[1]; seed < a[1] + a[2]; seed++) {
            sum += new Life(state.copy(), seed).state.houses.get((int) a[0])[0];
        }
        return fraction(BigInteger.valueOf(sum), BigInteger.valueOf(a[2]));
    }

    /** All the rows of wet and dry DAYS, one by one. */
    private long wet(long[] a) {
        need(1, is(a[0], 0, 12) && is(a[1], 0, 12));
        BigInteger sum = BigInteger.ZERO;
        for (int days = 0; days < 1 << a[0]; days++) {
            int wetDays = Integer.bitCount(days);
            if (wetDays >= a[1]) {
                sum = sum.add(BigInteger.valueOf(state.odds).pow(wetDays)
                        .multiply(BigInteger.valueOf(16 - state.odds).pow((int) a[0] - wetDays)));
            }
        }
        return fraction(sum, BigInteger.valueOf(16).pow((int) a[0]));
    }

    private long fraction(BigInteger above, BigInteger below) {
        BigInteger common = above.gcd(below);
        top = above.divide(common).longValueExact();
        bottom = below.divide(common).longValueExact();
        return 1;
    }

    // ---- what is told

    private int house(long house) {
        need(1, is(house, 0, state.houses.size() - 1));
        return (int) house;
    }

    private int wall(long wall) {
        need(1, is(wall, 0, state.houses.size() - 2));
        return (int) wall;
    }

    private int person(long person) {
        need(1, is(person, 0, state.people.size() - 1));
        return (int) person;
    }

    private long tells(String name, long[] a) {
        switch (name) {
            case "told":
                return told(a[0]);
            case "house":
                int[] house = state.houses.get(house(a[0]));
                need(1, is(a[1], 0, 3));
                return a[1] == 2 ? livingIn((int) a[0]) : house[(int) a[1]];
            case "wall":
                return state.place(wall(a[0]), 0);
            case "person":
                int[] him = state.people.get(person(a[0]));
                need(1, is(a[1], 0, 6));
                return him[(int) a[1]];
            case "quarrel":
                need(1, is(a[0], 0, state.quarrels.size() - 1) && is(a[1], 0, 6));
                return state.quarrels.get((int) a[0])[(int) a[1]];
            case "near":
                need(1, person(a[0]) != person(a[1]));
                return one(state.areNeighbours((int) a[0], (int) a[1]));
            default:
                return neighbours(person(a[0]));
        }
    }

    private long told(long what) {
        need(1, is(what, 0, 12));
        int peace = 0;
        for (int wall : state.peace) {
            peace += 1 << wall;
        }
        int landless = 0;
        for (int i = 0; i < state.houses.size(); i++) {
            landless += state.houses.get(i)[0] == 0 ? 1 << i : 0;
        }
        return new long[] {state.houses.size(), state.people.size(), state.quarrels.size(), state.foot, state.calm, state.odds,
            state.day, one(state.rain), state.angry(), peace, landless, state.said, state.shouts}[(int) what];
    }

    private int livingIn(int house) {
        int set = 0;
        for (int i = 0; i < state.people.size(); i++) {
            set += state.people.get(i)[0] == house ? 1 << i : 0;
        }
        return set;
    }

    private int neighbours(int person) {
        int set = 0;
        for (int i = 0; i < state.people.size(); i++) {
            set += state.areNeighbours(person, i) ? 1 << i : 0;
        }
        return set;
    }

    // ---- what is done

    private void pair(long one, long other) {
        need(1, person(one) != person(other));
        need(7, state.areNeighbours((int) one, (int) other));
    }

    private long does(String name, long[] a) {
        switch (name) {
            case "say":
                pair(a[0], a[1]);
                return state.say((int) a[0], (int) a[1]);
            case "sorry":
                need(1, is(a[0], 0, state.quarrels.size() - 1));
                need(7, state.canBeSorry((int) a[0]));
                return state.sorry((int) a[0]);
            case "night":
                need(1, is(a[0], 1, 99));
                need(4, state.day + a[0] <= 9999);
                for (int i = 0; i < a[0]; i++) {
                    state.night();
                }
                return state.angry();
            case "rain":
                need(7, one(state.rain) != a[0]);
                state.rain = a[0] == 1;
                return 1;
            case "peace":
                need(7, one(state.peace.contains(wall(a[0]))) != a[1]);
                return one(a[1] == 1 ? state.peace.add((int) a[0]) : state.peace.remove((int) a[0]));
            case "move":
                int[] mover = state.people.get(person(a[0]));
                int old = mover[0];
                need(7, house(a[1]) != old);
                mover[0] = (int) a[1];
                return old;
            case "change":
                int[] changed = state.people.get(person(a[0]));
                need(1, is(a[1], 1, 4));
                need(1, is(a[2], a[1] == 3 ? 1 : 0, new int[] {0, 30, 9, 9, 99}[(int) a[1]]));
                changed[(int) a[1]] = (int) a[2];
                return 1;
            case "rule":
                need(1, is(a[0], 1, 9));
                state.foot = (int) a[0];
                return 1;
            case "survey":
                return survey(wall(a[0]));
            default:
                int[] soothed = state.people.get(person(a[0]));
                int anger = soothed[5];
                soothed[5] = 0;
                return anger;
        }
    }

    /** A foot at a time, as long as there is one. */
    private long survey(int wall) {
        int[] left = state.houses.get(wall);
        int[] right = state.houses.get(wall + 1);
        int goes = 0;
        while (state.place(wall, 0) < state.place(wall, 1) && right[0] > 0) {
            right[0]--;
            left[0]++;
            goes++;
        }
        while (state.place(wall, 0) > state.place(wall, 1) && left[0] > 0) {
            left[0]--;
            right[0]++;
            goes--;
        }
        return goes;
    }

    // ---- what would be, games, land

    private long wouldBe(String name, long[] a) {
        switch (name) {
            case "loud":
                return state.loud(state.people.get(person(a[0]))[3]);
            case "hears":
                need(1, person(a[0]) != person(a[1]));
                return one(hears((int) a[0], (int) a[1]));
            case "heardBy":
                return heardBy(person(a[0]));
            case "shoutsBy":
                pair(a[0], a[1]);
                return shoutsBy((int) a[0], (int) a[1]);
            case "gainBy":
                pair(a[0], a[1]);
                return gainBy((int) a[0], (int) a[1]);
            case "bestTo":
                return bestTo(person(a[0]));
            case "dangers":
                return dangers(person(a[0]));
            case "quiet":
                return one(isQuiet(wall(a[0])));
            case "bait":
                pair(a[0], a[1]);
                return bait((int) a[0], (int) a[1]);
            case "leastVoice":
                pair(a[0], a[1]);
                return leastVoice((int) a[0], (int) a[1]);
            case "angerIn":
                need(1, is(person(a[0]), 0, 7) && is(a[1], 0, 99));
                return behind((int) a[1]).people.get((int) a[0])[5];
            case "calmIn":
                return calmIn();
            case "hire":
                return hire(person(a[0]))[1];
            case "hireSet":
                return hire(person(a[0]))[0];
            case "game":
                need(1, is(a[2], 0, 4));
                pair(a[0], a[1]);
                return play(state, (int) a[0], (int) a[1], 0, (int) a[2]) - wide(state, (int) a[0]);
            case "moveOf":
                need(1, is(a[2], 1, 4));
                pair(a[0], a[1]);
                State spoken = state.copy();
                spoken.say((int) a[0], (int) a[1]);
                return one(play(spoken, (int) a[0], (int) a[1], 1, (int) a[2]) > play(state, (int) a[0], (int) a[1], 1, (int) a[2]));
            default:
                return land(name, a);
        }
    }

    private boolean hears(int one, int other) {
        return state.loud(state.people.get(other)[3]) + state.people.get(one)[2] >= 10;
    }

    private long heardBy(int person) {
        int set = 0;
        for (int i = 0; i < state.people.size(); i++) {
            set += i != person && hears(i, person) ? 1 << i : 0;
        }
        return set;
    }

    private int shoutsBy(int one, int other) {
        return state.copy().say(one, other);
    }

    private static int wide(State state, int person) {
        return state.houses.get(state.people.get(person)[0])[0];
    }

    private int gainBy(int one, int other) {
        State then = state.copy();
        then.say(one, other);
        return wide(then, one) - wide(state, one);
    }

    private long bestTo(int person) {
        int best = -1;
        for (int i = 0; i < state.people.size(); i++) {
            if (state.areNeighbours(person, i) && gainBy(person, i) > (best < 0 ? 0 : gainBy(person, best))) {
                best = i;
            }
        }
        need(6, best >= 0);
        return best;
    }

    private long dangers(int person) {
        int set = 0;
        for (int i = 0; i < state.people.size(); i++) {
            set += state.areNeighbours(i, person) && shoutsBy(i, person) > 0 ? 1 << i : 0;
        }
        return set;
    }

    private boolean isQuiet(int wall) {
        boolean quiet = true;
        for (int i = 0; i < state.people.size(); i++) {
            for (int k = 0; k < state.people.size(); k++) {
                boolean across = Math.min(state.people.get(i)[0], state.people.get(k)[0]) == wall;
                quiet &= !(across && state.areNeighbours(i, k) && shoutsBy(i, k) > 0);
            }
        }
        return quiet;
    }

    private long bait(int one, int other) {
        State then = state.copy();
        for (int often = 1; often <= 99; often++) {
            if (then.say(one, other) > 0) {
                return often;
            }
        }
        throw new Refused(6);
    }

    private long leastVoice(int one, int other) {
        for (int voice = 1; voice <= 9; voice++) {
            State then = state.copy();
            then.people.get(one)[3] = voice;
            if (then.say(one, other) > 0) {
                return voice;
            }
        }
        throw new Refused(6);
    }

    private State behind(int nights) {
        State then = state.copy();
        for (int i = 0; i < nights; i++) {
            then.night();
        }
        return then;
    }

    private long calmIn() {
        for (int nights = 0; nights <= 99; nights++) {
            if (behind(nights).angry() == 0) {
                return nights;
            }
        }
        throw new Refused(6);
    }

    /** The set and its PAY. */
    private int[] hire(int person) {
        int[] best = null;
        for (int set = 1; set < 1 << state.people.size(); set++) {
            State then = state.copy();
            int pay = 0;
            boolean can = true;
            for (int i = 0; i < state.people.size(); i++) {
                if ((set >> i & 1) == 1) {
                    can &= state.areNeighbours(i, person);
                    if (can) {
                        then.say(i, person);
                    }
                    pay += state.people.get(i)[4];
                }
            }
            boolean shouts = can && then.people.get(person)[6] > state.people.get(person)[6];
            boolean better = best == null || pay < best[1] || pay == best[1] && Integer.bitCount(set) < Integer.bitCount(best[0]);
            if (shouts && better) {
                best = new int[] {set, pay};
            }
        }
        need(6, best != null);
        return best;
    }

    /** How WIDE the first one's HOUSE is in the end. */
    private static int play(State now, int one, int other, int turn, int turns) {
        if (turn == turns) {
            return wide(now, one);
        }
        State spoken = now.copy();
        boolean isFirst = turn % 2 == 0;
        spoken.say(isFirst ? one : other, isFirst ? other : one);
        int silent = play(now, one, other, turn + 1, turns);
        int loud = play(spoken, one, other, turn + 1, turns);
        return isFirst ? Math.max(silent, loud) : Math.min(silent, loud);
    }

    private long land(String name, long[] a) {
        switch (name) {
            case "widest":
                return most(state.houses, 0, -1);
            case "loser":
                return most(state.houses, 3, 0);
            case "loudest":
                return most(state.people, 6, 0);
            case "began":
                wall(a[0]);
                for (int k = state.quarrels.size() - 1; k >= 0; k--) {
                    if (state.quarrels.get(k)[1] == a[0]) {
                        return state.quarrels.get(k)[2];
                    }
                }
                throw new Refused(6);
            case "quarrelsAt":
                wall(a[0]);
                return state.quarrels.stream().filter(quarrel -> quarrel[1] == a[0]).count();
            default:
                throw new IllegalArgumentException(name);
        }
    }

    private static long most(List<int[]> rows, int what, int above) {
        int best = -1;
        for (int i = 0; i < rows.size(); i++) {
            if (rows.get(i)[what] > (best < 0 ? above : rows.get(best)[what])) {
                best = i;
            }
        }
        need(6, best >= 0);
        return best;
    }
}
