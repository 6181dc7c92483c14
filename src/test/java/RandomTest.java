import java.util.Random;

/**
 * Runs of calls by draws: no call throws, and what would be is what comes to be when it is done and taken back.
 * SAY is done once more by a plain model of its own.
 */
public final class RandomTest {
    private static final Check CHECK = new Check();
    private static final int RUNS = 1500;
    private static final int CALLS = 60;
    private static Random draws;

    public static void main(String[] args) {
        for (int run = 0; run < RUNS; run++) {
            draws = new Random(run);
            FootQuarrel q = new FootQuarrel();
            Check.street(q, streetText());
            Check.years(q, yearsText());
            for (int i = 0; i < CALLS; i++) {
                anyCall(q);
                if (i % 12 == 0) {
                    foresight("run " + run, q);
                }
            }
            land("run " + run, q);
        }
        garbage();
        CHECK.finish();
    }

    private static int pick(int least, int most) {
        return least + draws.nextInt(most - least + 1);
    }

    private static String streetText() {
        StringBuilder text = new StringBuilder("foot " + pick(1, 9) + "; calm " + pick(0, 9) + "; odds " + pick(0, 16) + ";");
        int houses = pick(1, 6);
        for (int i = 0; i < houses; i++) {
            text.append("house h").append((char) ('a' + i)).append(" wide ").append(pick(0, draws.nextBoolean() ? 5 : 99)).append(";");
        }
        int people = pick(0, 8);
        for (int i = 0; i < people; i++) {
            text.append("person p").append((char) ('a' + i)).append(" in h").append((char) ('a' + draws.nextInt(houses)));
            text.append(" temper ").append(pick(0, draws.nextBoolean() ? 8 : 30));
            text.append(" hears ").append(pick(2, 9)).append(" voice ").append(pick(1, 9)).append(" pay ").append(pick(0, 9)).append(";");
        }
        if (houses > 1 && draws.nextInt(4) == 0) {
            int wall = draws.nextInt(houses - 1);
            text.append("peace h").append((char) ('a' + wall)).append(" h").append((char) ('a' + wall + 1)).append(";");
        }
        return text.toString();
    }

    private static String yearsText() {
        String[] steps = {"any;", "any;", "any;", "sorry;", "night 1;", "night 20;", "rain;", "dry;", "say pa pb;", "say pb pa;",
            "stop;", "loop 9;", "loop 99;", "when raining;", "when angry pa > 2;", "when wide ha < 9;", "when wide hb = 0;", "end;"};
        StringBuilder text = new StringBuilder();
        int open = 0;
        for (int i = pick(0, 14); i > 0; i--) {
            String step = steps[draws.nextInt(steps.length)];
            boolean ends = step.equals("end;");
            boolean opens = step.startsWith("loop") || step.startsWith("when");
            if (ends && open == 0 || opens && open == 3) {
                continue;
            }
            open += ends ? -1 : opens ? 1 : 0;
            text.append(step);
        }
        return text.append("end;".repeat(open)).toString();
    }

    /** Mostly what is near a number that can be. */
    private static int number() {
        int sort = draws.nextInt(40);
        if (sort == 0) {
            return Integer.MAX_VALUE;
        }
        if (sort == 1) {
            return Integer.MIN_VALUE;
        }
        return sort < 4 ? pick(-3, 120) : pick(-1, 8);
    }

    private static void anyCall(FootQuarrel q) {
        int a = number();
        int b = number();
        int c = number();
        switch (draws.nextInt(46)) {
            case 0 -> q.tray(a, b, c * 3);
            case 1 -> q.write(a, b, draws.nextLong());
            case 2 -> q.read(a, b);
            case 3 -> q.pour(a, b, c, number(), number());
            case 4 -> q.feed(a, b, c, number(), number());
            case 5 -> q.street(a * 7);
            case 6 -> q.years(a * 7);
            case 7 -> q.told(a);
            case 8 -> q.house(a, b);
            case 9 -> q.wall(a);
            case 10 -> q.person(a, b);
            case 11 -> q.quarrel(a, b);
            case 12 -> q.near(a, b);
            case 13 -> q.neighbours(a);
            case 14, 15, 16, 17, 18, 19, 20, 21, 22, 23 -> modelledSay(q, a, b);
            case 24 -> q.sorry(a);
            case 25 -> q.night(a);
            case 26 -> q.rain(draws.nextBoolean());
            case 27 -> q.peace(a, draws.nextBoolean());
            case 28 -> q.move(a, b);
            case 29 -> q.change(a, b, c);
            case 30 -> q.rule(a);
            case 31 -> q.survey(a);
            case 32 -> q.soothe(a);
            case 33 -> q.ways(a, b);
            case 34 -> q.fewest(a, b);
            case 35 -> q.blame(a, b);
            case 36 -> q.copyWalls(a);
            case 37 -> q.wet(a, b);
            case 38 -> q.live(a);
            case 39 -> q.lived(a);
            case 40 -> q.mean(a, b, c);
            case 41 -> q.share(a);
            case 42 -> q.began(a);
            case 43 -> q.quarrelsAt(a);
            case 44 -> q.fault(a);
            default -> plainOnes(q, a, b, c);
        }
    }

    private static void plainOnes(FootQuarrel q, int a, int b, int c) {
        q.loud(a);
        q.hears(a, b);
        q.heardBy(a);
        q.shoutsBy(a, b);
        q.gainBy(a, b);
        q.bestTo(a);
        q.dangers(a);
        q.quiet(a);
        q.bait(a, b);
        q.leastVoice(a, b);
        q.angerIn(a, b);
        q.calmIn();
        q.hire(a);
        q.hireSet(a);
        q.game(a, b, c);
        q.moveOf(a, b, c);
        q.widest();
        q.loser();
        q.loudest();
    }

    /** SAY by a model that keeps the two in rows. */
    private static void modelledSay(FootQuarrel q, int one, int other) {
        if (q.near(one, other) != 1) {
            int status = q.status() == 0 ? 7 : 1;
            CHECK.refused(q, "say(" + one + ", " + other + ")", q.say(one, other), status);
            return;
        }
        int[] who = {one, other};
        int[] home = {q.person(one, 0), q.person(other, 0)};
        int[] anger = {q.person(one, 5), q.person(other, 5)};
        int[] wide = {q.house(home[0], 0), q.house(home[1], 0)};
        int[] lost = {q.house(home[0], 3), q.house(home[1], 3)};
        int[] shoutsOf = {q.person(one, 6), q.person(other, 6)};
        int rain = q.told(7) * 2;
        int place = q.wall(Math.min(home[0], home[1]));
        int loud = Math.max(0, q.person(one, 3) - rain);
        int shouts = 0;
        int told = 1;
        while (shouts < 6 && loud + q.person(who[told], 2) >= 10) {
            anger[told] += loud;
            if (anger[told] <= q.person(who[told], 1)) {
                break;
            }
            anger[told] = 0;
            shouts++;
            shoutsOf[told]++;
            int feet = Math.min(q.told(3), wide[told]);
            wide[told] -= feet;
            lost[told] += feet;
            wide[1 - told] += feet;
            loud = 9 - rain;
            told = 1 - told;
        }
        int kept = q.told(2);
        CHECK.fine(q, "say", q.say(one, other), shouts);
        for (int i = 0; i < 2; i++) {
            CHECK.due("ANGER", q.person(who[i], 5), anger[i]);
            CHECK.due("SHOUTS", q.person(who[i], 6), shoutsOf[i]);
            CHECK.due("WIDE", q.house(home[i], 0), wide[i]);
            CHECK.due("lost", q.house(home[i], 3), lost[i]);
        }
        CHECK.due("told(2)", q.told(2), shouts == 0 ? kept : Math.min(20, kept + 1));
        if (shouts > 0) {
            CHECK.due("quarrel(0, 5)", q.quarrel(0, 5), q.wall(Math.min(home[0], home[1])) - place);
            CHECK.due("quarrel(0, 4)", q.quarrel(0, 4), shouts);
            CHECK.due("quarrel(0, 0)", q.quarrel(0, 0), q.told(6));
        }
    }

    private static void foresight(String run, FootQuarrel q) {
        // MARKS were never made by anyCall, so that all three are free here.
        for (int one = 0; one < q.told(1); one++) {
            int best = -1;
            int most = 0;
            int dangers = 0;
            for (int other = 0; other < q.told(1); other++) {
                if (one == other || q.near(one, other) != 1) {
                    continue;
                }
                pair(run, q, one, other);
                int gain = q.gainBy(one, other);
                if (gain > most) {
                    most = gain;
                    best = other;
                }
                dangers |= q.shoutsBy(other, one) > 0 ? 1 << other : 0;
            }
            CHECK.due(run + " bestTo", q.bestTo(one), best);
            CHECK.due(run + " dangers", q.dangers(one), dangers);
            hire(run, q, one);
            int nights = pick(1, 20);
            int later = q.angerIn(one, nights);
            q.mark();
            if (q.night(nights) != -1) {
                CHECK.due(run + " angerIn", q.person(one, 5), later);
            }
            q.undo();
        }
    }

    private static void pair(String run, FootQuarrel q, int one, int other) {
        int home = q.person(one, 0);
        int wide = q.house(home, 0);
        int shouts = q.shoutsBy(one, other);
        int gain = q.gainBy(one, other);
        q.mark();
        CHECK.due(run + " shoutsBy", shouts, q.say(one, other));
        CHECK.due(run + " gainBy", gain, q.house(home, 0) - wide);
        q.undo();
        int baits = q.bait(one, other);
        q.mark();
        int often = 0;
        for (int i = 1; i <= 99 && often == 0; i++) {
            often = q.say(one, other) > 0 ? i : 0;
        }
        CHECK.due(run + " bait", baits, often == 0 ? -1 : often);
        q.undo();
        int least = -1;
        int voice = q.leastVoice(one, other);
        for (int i = 9; i >= 1; i--) {
            q.mark();
            q.change(one, 3, i);
            least = q.say(one, other) > 0 ? i : least;
            q.undo();
        }
        CHECK.due(run + " leastVoice", voice, least);
        int turns = pick(1, 4);
        CHECK.due(run + " game", q.game(one, other, turns), play(q, one, other, turns, 0, 0));
        boolean speaks = play(q, one, other, turns, 1, 1) > play(q, one, other, turns, 1, 0);
        CHECK.due(run + " moveOf", q.moveOf(one, other, turns), speaks ? 1 : 0);
    }

    /** The moves that were made are the bits of said, the first one's first move the lowest. */
    private static int play(FootQuarrel q, int one, int other, int turns, int turn, int said) {
        if (turn == turns) {
            int home = q.person(one, 0);
            int wide = q.house(home, 0);
            q.mark();
            for (int i = 0; i < turns; i++) {
                if ((said >> i & 1) == 1) {
                    q.say(i % 2 == 0 ? one : other, i % 2 == 0 ? other : one);
                }
            }
            int gain = q.house(home, 0) - wide;
            q.undo();
            return gain;
        }
        int silent = play(q, one, other, turns, turn + 1, said);
        int spoken = play(q, one, other, turns, turn + 1, said | 1 << turn);
        return turn % 2 == 0 ? Math.max(silent, spoken) : Math.min(silent, spoken);
    }

    private static void hire(String run, FootQuarrel q, int person) {
        int bestSet = -1;
        int bestPay = -1;
        int near = q.neighbours(person);
        for (int set = 1; set < 256; set++) {
            if ((set & near) != set) {
                continue;
            }
            q.mark();
            int ahead = q.person(person, 6);
            int pay = 0;
            for (int i = 0; i < 8; i++) {
                if ((set >> i & 1) == 1) {
                    q.say(i, person);
                    pay += q.person(i, 4);
                }
            }
            boolean shouted = q.person(person, 6) > ahead;
            q.undo();
            boolean better = bestSet == -1 || pay < bestPay || pay == bestPay && Integer.bitCount(set) < Integer.bitCount(bestSet);
            if (shouted && better) {
                bestSet = set;
                bestPay = pay;
            }
        }
        CHECK.due(run + " hireSet", q.hireSet(person), bestSet);
        CHECK.due(run + " hire", q.hire(person), bestPay);
    }

    private static void land(String run, FootQuarrel q) {
        int told = 0;
        int is = 0;
        for (int i = 0; i < q.told(0); i++) {
            told += q.house(i, 1);
            is += q.house(i, 0);
            if (q.house(i, 0) < 0) {
                CHECK.due(run + " a HOUSE below 0", 1, 0);
            }
        }
        CHECK.due(run + " all land", is, told);
    }

    /** Texts that are cut, doubled and spoilt. */
    private static void garbage() {
        for (int run = 0; run < 4000; run++) {
            draws = new Random(run);
            FootQuarrel q = new FootQuarrel();
            StringBuilder text = new StringBuilder(draws.nextBoolean() ? streetText() : yearsText() + yearsText());
            for (int i = pick(0, 3); i > 0 && text.length() > 0; i--) {
                int at = draws.nextInt(text.length());
                if (draws.nextBoolean()) {
                    text.deleteCharAt(at);
                } else {
                    text.insert(at, (char) draws.nextInt(256));
                }
            }
            String cut = text.substring(0, Math.min(text.length(), 880));
            boolean street = Check.street(q, cut) != -1;
            fault(q, street, cut);
            if (cut.length() <= 300) {
                boolean years = Check.years(q, cut) != -1;
                fault(q, years, cut);
            }
        }
    }

    private static void fault(FootQuarrel q, boolean good, String text) {
        boolean kind = good ? q.fault(0) == 0 : q.fault(0) >= 1 && q.fault(0) <= 7;
        boolean place = good ? q.fault(1) == -1 : q.fault(1) >= 0 && q.fault(1) <= text.length();
        CHECK.due("fault of " + text, kind && place, true);
    }
}
