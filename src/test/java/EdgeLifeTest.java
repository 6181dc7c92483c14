/** The boundary cases of YEARS that are LIVED, promises 57 to 59, each sentence by itself. */
public final class EdgeLifeTest {
    private static final Check CHECK = new Check();
    private static final String ROW = "foot 4; calm 3; odds 6; house a wide 20; house b wide 20; house c wide 20;"
            + "person p in a temper 30 hears 0 voice 5; person r in b temper 0 hears 9; person s in c temper 30 hears 0; person t in a temper 30;";

    public static void main(String[] args) {
        seeds();
        withoutYears();
        livedWhats();
        livedOfNone();
        livedOfLatest();
        missedSay();
        missedSorry();
        sorryOfLatest();
        missedNights();
        missedWeather();
        missedAny();
        anyRainsBelowOdds();
        anyWithOnePerson();
        anyWithEight();
        anyMissedTurnsWeather();
        drawsWrap();
        nightsOneToTwenty();
        testsAtTheEdge();
        testsOfMost();
        loopsAsOften();
        whenCountsOnce();
        stopIsAStep();
        threeHundredSteps();
        stepLeft();
        noStepLeft();
        allIsAsItIsThen();
        quarrelsInYears();
        meanNumbers();
        meanLastSeed();
        meanWithoutYears();
        meanOfOneAndTwenty();
        meanStays();
        CHECK.finish();
    }

    private static FootQuarrel row() {
        return Check.withStreet(ROW);
    }

    /** The YEARS are LIVED by that seed: STEPS done, then what lived() tells. */
    private static void lives(FootQuarrel q, int seed, String text, int done, int... lived) {
        CHECK.due("STEPS of " + text + " are taken", Check.years(q, text) >= 0, true);
        CHECK.fine(q, "live(" + seed + "): " + text, q.live(seed), done);
        for (int what = 0; what < lived.length; what++) {
            CHECK.fine(q, "lived(" + what + "): " + text, q.lived(what), lived[what]);
        }
    }

    private static void lives(FootQuarrel q, String text, int done, int... lived) {
        lives(q, 0, text, done, lived);
    }

    /** "LIVED by a seed (0 to 9,999)". */
    private static void seeds() {
        FootQuarrel q = row();
        Check.years(q, "rain;");
        for (int seed : new int[] {-1, 10000, 65536, Integer.MAX_VALUE, Integer.MIN_VALUE}) {
            CHECK.refused(q, "live(" + seed + ")", q.live(seed), 1);
            CHECK.due("it is dry", q.told(7), 0);
        }
        CHECK.fine(q, "live(0)", q.live(0), 1);
        CHECK.fine(q, "live(9999)", q.live(9999), 1);
    }

    /** live: "6: no YEARS"; "the first of these that holds". */
    private static void withoutYears() {
        FootQuarrel q = row();
        CHECK.refused(q, "live(0) without YEARS", q.live(0), 6);
        CHECK.refused(q, "live(9999) without YEARS", q.live(9999), 6);
        CHECK.refused(q, "live(10000) without YEARS", q.live(10000), 1);
        CHECK.refused(q, "live(-1) without YEARS", q.live(-1), 1);
        Check.years(q, "rain");
        CHECK.refused(q, "live(0) behind YEARS with a FAULT", q.live(0), 6);
    }

    /** lived: what 0 to 4 "(1 ..)". */
    private static void livedWhats() {
        FootQuarrel q = row();
        lives(q, "rain;rain;night 2;say p t;say p r;", 5, 2, 2, 1, 1, 0);
        for (int what : new int[] {-1, 5, Integer.MAX_VALUE, Integer.MIN_VALUE}) {
            CHECK.refused(q, "lived(" + what + ")", q.lived(what), 1);
        }
    }

    /** lived: "6: there was none". */
    private static void livedOfNone() {
        FootQuarrel q = new FootQuarrel();
        for (int what = 0; what <= 4; what++) {
            CHECK.refused(q, "lived(" + what + ") of none", q.lived(what), 6);
        }
        CHECK.refused(q, "lived(5) of none: the first STATUS that holds", q.lived(5), 1);
        CHECK.refused(q, "lived(-1) of none: the first STATUS that holds", q.lived(-1), 1);
        q.live(0);
        q.live(-1);
        CHECK.refused(q, "lived(0) behind live() with other STATUS", q.lived(0), 6);
        Check.street(q, ROW);
        Check.years(q, "rain;rain;");
        q.mean(0, 0, 5);
        CHECK.refused(q, "lived(0) behind mean()", q.lived(0), 6);
        q.live(0);
        CHECK.fine(q, "lived(0)", q.lived(0), 1);
    }

    /** "Of live() latest with STATUS 0". */
    private static void livedOfLatest() {
        FootQuarrel q = row();
        lives(q, "rain;rain;rain;night 7;", 4, 2, 7, 0, 0, 0);
        CHECK.refused(q, "live(-1)", q.live(-1), 1);
        CHECK.fine(q, "lived(0) of the one ahead", q.lived(0), 2);
        CHECK.fine(q, "lived(1) of the one ahead", q.lived(1), 7);
        Check.street(q, ROW);
        CHECK.refused(q, "live(0) without YEARS", q.live(0), 6);
        CHECK.fine(q, "lived(1) of the one ahead still", q.lived(1), 7);
        lives(q, "", 0, 0, 0, 0, 0, 0);
    }

    /** MISSED: "a say (by any, too) to one who is no NEIGHBOUR". */
    private static void missedSay() {
        FootQuarrel q = row();
        lives(q, "say p p;", 1, 1, 0, 0, 0, 0);
        lives(q, "say p t;", 1, 1, 0, 0, 0, 0);
        lives(q, "say p s;", 1, 1, 0, 0, 0, 0);
        CHECK.due("nothing was said", q.told(11), 0);
        lives(q, "say p r;", 1, 0, 0, 1, 1, 0);
        q.peace(0, true);
        lives(q, "say p r;say s r;", 2, 1, 0, 1, 1, 0);
        q.move(0, 2);
        lives(q, "say p r;", 1, 0, 0, 1, 1, 0);
    }

    /** MISSED: "a sorry that can't be". */
    private static void missedSorry() {
        FootQuarrel q = row();
        lives(q, "sorry;", 1, 1, 0, 0, 0, 0);
        lives(q, "say p r;sorry;", 2, 0, 0, 1, 1, 0);
        CHECK.due("the WALL", q.wall(0), 22);
        lives(q, "sorry;", 1, 1, 0, 0, 0, 0);
        lives(q, "say p r;night 1;sorry;", 3, 1, 1, 1, 1, 0);
        CHECK.due("the WALL", q.wall(0), 26);
        q.rule(1);
        lives(q, "say p r;sorry;sorry;", 3, 1, 0, 1, 1, 0);
        CHECK.due("a sorry of 0 feet is none MISSED", q.quarrel(0, 6), 1);
    }

    /** "sorry: the latest QUARREL", not one ahead of it. */
    private static void sorryOfLatest() {
        FootQuarrel q = row();
        lives(q, "say p r;say s r;sorry;sorry;", 4, 1, 0, 2, 2, 0);
        CHECK.due("the latest is halved", q.quarrel(0, 6), 1);
        CHECK.due("the one ahead isn't", q.quarrel(1, 6), 0);
        CHECK.due("WALL 0", q.wall(0), 24);
        CHECK.due("WALL 1", q.wall(1), 38);
    }

    /** MISSED: "NIGHTS beyond DAY 9,999 (as a whole)". */
    private static void missedNights() {
        FootQuarrel q = row();
        for (int i = 0; i < 100; i++) {
            q.night(99);
        }
        q.night(80);
        CHECK.due("the DAY", q.told(6), 9980);
        q.mark();
        lives(q, "night 20;", 1, 1, 0, 0, 0, 0);
        CHECK.due("the DAY stays", q.told(6), 9980);
        lives(q, "night 19;", 1, 0, 19, 0, 0, 0);
        CHECK.due("the last DAY", q.told(6), 9999);
        lives(q, "night 1;", 1, 1, 0, 0, 0, 0);
        q.undo();
        lives(q, "night 18;night 2;night 1;night 1;", 4, 2, 19, 0, 0, 0);
        CHECK.due("the last DAY", q.told(6), 9999);
    }

    /** MISSED: "a rain while it rains, a dry while it is dry". */
    private static void missedWeather() {
        FootQuarrel q = row();
        lives(q, "dry;", 1, 1, 0, 0, 0, 0);
        lives(q, "rain;", 1, 0, 0, 0, 0, 0);
        lives(q, "rain;", 1, 1, 0, 0, 0, 0);
        CHECK.due("it rains", q.told(7), 1);
        lives(q, "dry;dry;", 2, 1, 0, 0, 0, 0);
        CHECK.due("it is dry", q.told(7), 0);
    }

    /** MISSED: "any without PEOPLE (no draws, the weather stays)". */
    private static void missedAny() {
        for (int rain = 0; rain < 2; rain++) {
            FootQuarrel q = Check.withStreet(rain == 0 ? "odds 16; house a wide 5;" : "odds 0; house a wide 5;");
            if (rain == 1) {
                q.rain(true);
            }
            lives(q, "any;any;any;", 3, 3, 0, 0, 0, 0);
            CHECK.due("the weather stays", q.told(7), rain);
        }
    }

    private static int drawOf(int s, int by) {
        return s / 8 % by;
    }

    private static int next(int s) {
        return (int) ((s * 3067L + 11287L) % 65536L);
    }

    /** "any: it rains, if a draw by 16 is below ODDS, else it is dry": every draw by every ODDS, rainy and dry ahead. */
    private static void anyRainsBelowOdds() {
        boolean[] seen = new boolean[16];
        for (int seed = 0; seed < 400; seed++) {
            int drawn = drawOf(next(seed), 16);
            if (seen[drawn]) {
                continue;
            }
            seen[drawn] = true;
            for (int odds = 0; odds <= 16; odds++) {
                for (int rain = 0; rain < 2; rain++) {
                    FootQuarrel q = Check.withStreet("odds " + odds + "; house a wide 5; person p in a;");
                    if (rain == 1) {
                        q.rain(true);
                    }
                    lives(q, seed, "any;", 1);
                    CHECK.due("rain by the draw " + drawn + " and ODDS " + odds, q.told(7), drawn < odds ? 1 : 0);
                }
            }
        }
        for (int drawn = 0; drawn < 16; drawn++) {
            CHECK.due("the draw " + drawn + " was there", seen[drawn], true);
        }
    }

    /** One PERSON alone says it to himself, who is no NEIGHBOUR: MISSED, but the draws are made. */
    private static void anyWithOnePerson() {
        FootQuarrel q = Check.withStreet("odds 16; house a wide 5; house b wide 5; person p in a;");
        lives(q, "any;any;", 2, 2, 0, 0, 0, 0);
        CHECK.due("it rains", q.told(7), 1);
    }

    /** "then one by a draw by how many PEOPLE there are says something to one by such a draw". */
    private static void anyWithEight() {
        StringBuilder text = new StringBuilder("odds 0; house a wide 5; house b wide 5;");
        for (int i = 0; i < 8; i++) {
            text.append("person p").append((char) ('a' + i)).append(i % 2 == 0 ? " in a" : " in b").append(" hears 9 voice ").append(i + 1).append(";");
        }
        boolean[] seenOne = new boolean[8];
        boolean[] seenOther = new boolean[8];
        for (int seed = 0; seed < 150; seed++) {
            FootQuarrel q = Check.withStreet(text.toString());
            int s = next(next(seed));
            int one = drawOf(s, 8);
            int other = drawOf(next(s), 8);
            boolean near = one % 2 != other % 2;
            lives(q, seed, "any;", 1, near ? 0 : 1, 0, near ? 1 : 0);
            CHECK.due("who is ANGRY by seed " + seed, q.told(8), near ? 1 << other : 0);
            if (near) {
                CHECK.due("by how much", q.person(other, 5), one + 1);
                seenOne[one] = true;
                seenOther[other] = true;
            }
        }
        for (int i = 0; i < 8; i++) {
            CHECK.due("PERSON " + i + " said something", seenOne[i], true);
            CHECK.due("PERSON " + i + " was told something", seenOther[i], true);
        }
    }

    private static void anyMissedTurnsWeather() {
        FootQuarrel q = Check.withStreet("odds 16; house a wide 5; person p in a; person r in a;");
        lives(q, "any;", 1, 1, 0, 0, 0, 0);
        CHECK.due("it rains all the same", q.told(7), 1);
        lives(q, "any;any;", 2, 2, 0, 0, 0, 0);
        CHECK.due("it rains still: no weather is MISSED", q.told(7), 1);
    }

    /** "s .. becomes what is left of s times 3,067 and 11,287 by 65,536": 100 any, 300 draws, by the first and the last seed. */
    private static void drawsWrap() {
        for (int seed : new int[] {0, 1, 17, 9998, 9999}) {
            FootQuarrel q = Check.withStreet("odds 8; house a wide 5; house b wide 5; person p in a temper 30 hears 0 voice 1; person r in b temper 30 hears 0;");
            int s = seed;
            int said = 0;
            int rain = 0;
            for (int i = 0; i < 99; i++) {
                s = next(s);
                rain = drawOf(s, 16) < 8 ? 1 : 0;
                s = next(s);
                int one = drawOf(s, 2);
                s = next(s);
                said += one != drawOf(s, 2) ? 1 : 0;
            }
            lives(q, seed, "loop 99;any;end;", 100, 99 - said, 0, said, 0, 0);
            CHECK.due("the last weather by seed " + seed, q.told(7), rain);
        }
    }

    /** "night: so many (1 to 20)". */
    private static void nightsOneToTwenty() {
        FootQuarrel q = row();
        lives(q, "night 1;", 1, 0, 1, 0, 0, 0);
        CHECK.due("the DAY", q.told(6), 1);
        lives(q, "night 20;", 1, 0, 20, 0, 0, 0);
        CHECK.due("the DAY", q.told(6), 21);
        FootQuarrel angry = Check.withStreet("calm 4; house a wide 5; house b wide 5; person p in a voice 9; person r in b temper 30;");
        lives(angry, "say p r;night 2;", 2, 0, 2, 1, 0, 0);
        CHECK.due("ANGER of 9 less 8", angry.person(1, 5), 1);
        lives(angry, "night 1;", 1);
        CHECK.due("ANGER, 0 at least", angry.person(1, 5), 0);
    }

    /** "COMPARES: < or > or =", by the number below, the same, the one above. */
    private static void testsAtTheEdge() {
        String text = "house a wide 7; house b wide 0; person p in a voice 8; person r in b hears 9;";
        for (int number = 6; number <= 9; number++) {
            FootQuarrel q = Check.withStreet(text);
            q.say(0, 1);
            lives(q, "when angry r < " + number + ";night 1;end;", 8 < number ? 2 : 1);
            FootQuarrel more = Check.withStreet(text);
            more.say(0, 1);
            lives(more, "when angry r > " + number + ";night 1;end;", 8 > number ? 2 : 1);
            FootQuarrel as = Check.withStreet(text);
            as.say(0, 1);
            lives(as, "when angry r = " + number + ";night 1;end;", 8 == number ? 2 : 1);
            lives(as, "when wide a < " + number + ";night 1;end;", 7 < number ? 2 : 1);
            lives(as, "when wide a > " + number + ";night 1;end;", 7 > number ? 2 : 1);
            lives(as, "when wide a = " + number + ";night 1;end;", 7 == number ? 2 : 1);
        }
        FootQuarrel none = Check.withStreet(text);
        lives(none, "when angry p = 0;night 1;end;", 2);
        lives(none, "when angry p > 0;night 1;end;", 1);
        lives(none, "when angry p < 0;night 1;end;", 1);
        lives(none, "when angry p < 1;night 1;end;", 2);
        lives(none, "when wide b = 0;night 1;end;", 2);
        lives(none, "when wide b < 0;night 1;end;", 1);
        lives(none, "when wide b < 1;night 1;end;", 2);
        lives(none, "when raining;night 1;end;", 1);
        none.rain(true);
        lives(none, "when raining;night 1;end;", 2);
    }

    /** "angry: 0 to 99; wide: 0 to 999", though none is so ANGRY, so WIDE. */
    private static void testsOfMost() {
        FootQuarrel q = Check.withStreet("foot 9; house a wide 99; house b wide 9; person p in a temper 30 hears 0; person r in b temper 0 hears 9;");
        q.say(0, 1);
        CHECK.due("WIDE", q.house(0, 0), 108);
        lives(q, "when wide a = 108;night 1;end;", 2);
        lives(q, "when wide a > 107;night 1;end;", 2);
        lives(q, "when wide a < 999;night 1;end;", 2);
        lives(q, "when wide a = 999;night 1;end;", 1);
        lives(q, "when angry p < 99;night 1;end;", 2);
        lives(q, "when angry p > 99;night 1;end;", 1);
    }

    /** "loop n (1 to 99): as often". */
    private static void loopsAsOften() {
        for (int often : new int[] {1, 2, 98, 99}) {
            FootQuarrel q = row();
            lives(q, "loop " + often + ";night 1;end;", often + 1, 0, often, 0, 0, 0);
        }
        FootQuarrel q = row();
        lives(q, "loop 3;loop 4;loop 5;night 1;end;end;end;", 1 + 3 + 12 + 60, 0, 60, 0, 0, 0);
        lives(q, "loop 99;end;", 1, 0, 0, 0, 0, 0);
        lives(q, "loop 2;loop 3;night 1;end;loop 2;night 1;end;end;", 1 + 2 + 6 + 2 + 4, 0, 10, 0, 0, 0);
    }

    /** "(when, loop count as one each time they are come to from ahead; end does not)". */
    private static void whenCountsOnce() {
        FootQuarrel q = row();
        lives(q, "when raining;end;", 1, 0, 0, 0, 0, 0);
        lives(q, "loop 5;end;", 1, 0, 0, 0, 0, 0);
        lives(q, "loop 5;when raining;end;end;", 6, 0, 0, 0, 0, 0);
        lives(q, "loop 5;loop 5;end;end;", 6, 0, 0, 0, 0, 0);
        lives(q, "when raining;loop 5;night 1;end;end;night 1;", 2, 0, 1, 0, 0, 0);
        lives(q, "when angry p = 0;loop 5;night 1;end;end;night 1;", 8, 0, 6, 0, 0, 0);
    }

    private static void stopIsAStep() {
        FootQuarrel q = row();
        lives(q, "stop;", 1, 0, 0, 0, 0, 0);
        lives(q, "night 1;stop;night 1;", 2, 0, 1, 0, 0, 0);
        lives(q, "loop 9;night 1;stop;end;night 1;", 3, 0, 1, 0, 0, 0);
        lives(q, "loop 9;when raining;stop;end;night 1;end;night 1;", 1 + 18 + 1, 0, 10, 0, 0, 0);
        lives(q, "stop;stop;", 1, 0, 0, 0, 0, 0);
    }

    /** "At most 300 STEPS": 299, 300, 301. */
    private static void threeHundredSteps() {
        String most = "loop 99;night 1;rain;dry;end;";
        FootQuarrel q = row();
        lives(q, most, 298, 0, 99, 0, 0, 0);
        lives(q, most + "rain;", 299, 0, 99, 0, 0, 0);
        lives(q, "dry;" + most + "rain;", 300, 0, 99, 0, 0, 0);
        lives(q, "dry;" + most + "rain;dry;", 300, 0, 99, 0, 0, 1);
        CHECK.due("the 301st isn't done", q.told(7), 1);
        lives(q, "dry;" + most + "rain;dry;night 20;", 300, 0, 99, 0, 0, 1);
        lives(q, "loop 99;loop 99;night 1;end;end;", 300, 0, 99 + 99 + 98, 0, 0, 1);
    }

    /** "1 if a STEP was left to be done": any STEP that is come to, in a loop that goes on, too. */
    private static void stepLeft() {
        String full = "loop 99;night 1;rain;dry;end;rain;dry;";
        for (String step : new String[] {"say p r;", "sorry;", "night 1;", "rain;", "dry;", "any;", "stop;", "when raining;end;", "loop 1;end;"}) {
            FootQuarrel q = row();
            lives(q, full + step, 300, 0, 99, 0, 0, 1);
        }
        FootQuarrel q = row();
        lives(q, "loop 50;loop 5;night 1;end;end;", 300, 0, 249, 0, 0, 1);
        lives(q, "loop 99;when angry p = 0;when angry p = 0;night 1;end;end;end;", 1 + 3 * 99, 0, 99, 0, 0, 0);
    }

    /** "else 0": behind the 300th there are ends alone, or what a test shuts out, or nothing. */
    private static void noStepLeft() {
        FootQuarrel q = row();
        String full = "loop 99;night 1;rain;dry;end;rain;dry;";
        lives(q, full, 300, 0, 99, 0, 0, 0);
        lives(q, "loop 99;night 1;rain;dry;end;rain;when angry p = 1;night 1;end;", 300, 0, 99, 0, 0, 0);
        FootQuarrel shut = row();
        lives(shut, "loop 99;night 1;rain;dry;end;rain;loop 99;end;", 300, 0, 99, 0, 0, 0);
        FootQuarrel stop = row();
        lives(stop, "loop 99;night 1;rain;dry;end;rain;stop;night 1;", 300, 0, 99, 0, 0, 0);
        FootQuarrel inside = row();
        lives(inside, "loop 1;loop 1;rain;loop 99;night 1;rain;dry;end;end;end;", 300, 1, 99, 0, 0, 1);
    }

    /** "all is as it is then". */
    private static void allIsAsItIsThen() {
        FootQuarrel q = row();
        Check.years(q, "rain;night 2;say p r;");
        FootQuarrel done = row();
        for (int i = 0; i < 3; i++) {
            CHECK.fine(q, "live(0), time " + i, q.live(0), 3);
            done.rain(true);
            done.night(2);
            done.say(0, 1);
            CHECK.due("as if it were done, time " + i, Scene.state(q).equals(Scene.state(done)), true);
        }
    }

    /** QUARRELS of YEARS are kept as others are: the latest 20. */
    private static void quarrelsInYears() {
        FootQuarrel q = row();
        lives(q, "loop 21;say s r;night 1;end;say p r;", 44, 0, 21, 22, 22, 0);
        CHECK.due("kept", q.told(2), 20);
        CHECK.due("the latest", q.quarrel(0, 2), 0);
        CHECK.due("the DAY of the latest", q.quarrel(0, 0), 21);
        CHECK.due("the DAY of the first", q.quarrel(19, 0), 2);
        CHECK.due("said", q.told(11), 22);
        CHECK.due("SHOUTS", q.told(12), 22);
    }

    /** mean: "by so many seeds (1 to 20)". */
    private static void meanNumbers() {
        FootQuarrel q = row();
        Check.years(q, "say p r;");
        CHECK.fraction(q, "mean(0, 0, 1)", q.mean(0, 0, 1), 24, 1);
        CHECK.fraction(q, "mean(2, 0, 20)", q.mean(2, 0, 20), 20, 1);
        for (int many : new int[] {-1, 0, 21, Integer.MAX_VALUE, Integer.MIN_VALUE}) {
            CHECK.denied(q, "mean(0, 0, " + many + ")", q.mean(0, 0, many), 1);
        }
        for (int house : new int[] {-1, 3, 6, Integer.MAX_VALUE, Integer.MIN_VALUE}) {
            CHECK.denied(q, "mean(" + house + ", 0, 1)", q.mean(house, 0, 1), 1);
        }
        for (int seed : new int[] {-1, 10000, Integer.MAX_VALUE, Integer.MIN_VALUE}) {
            CHECK.denied(q, "mean(0, " + seed + ", 1)", q.mean(0, seed, 1), 1);
        }
        CHECK.due("top() stays", q.top(), 20);
        CHECK.due("bottom() stays", q.bottom(), 1);
    }

    /** "(1: the last above 9,999, too ..)". */
    private static void meanLastSeed() {
        FootQuarrel q = row();
        Check.years(q, "");
        for (int many = 1; many <= 20; many++) {
            CHECK.fraction(q, "mean to seed 9,999 by " + many, q.mean(0, 10000 - many, many), 20, 1);
            CHECK.denied(q, "mean to seed 10,000 by " + many, q.mean(0, 10001 - many, many), 1);
        }
        CHECK.denied(q, "mean beyond the greatest number", q.mean(0, Integer.MAX_VALUE, 20), 1);
    }

    /** "6: no YEARS". */
    private static void meanWithoutYears() {
        FootQuarrel q = row();
        CHECK.denied(q, "mean(0, 0, 1) without YEARS", q.mean(0, 0, 1), 6);
        CHECK.denied(q, "mean(3, 0, 1) without YEARS: the first STATUS that holds", q.mean(3, 0, 1), 1);
        CHECK.denied(q, "mean(0, 9999, 2) without YEARS: the first STATUS that holds", q.mean(0, 9999, 2), 1);
        FootQuarrel none = new FootQuarrel();
        CHECK.denied(none, "mean(0, 0, 1) of no HOUSES", none.mean(0, 0, 1), 1);
    }

    /** "The FRACTION is the mean of how WIDE a HOUSE is behind the YEARS", by each seed from where all is now. */
    private static void meanOfOneAndTwenty() {
        FootQuarrel q = Check.withStreet("foot 9; odds 8; house a wide 20; house b wide 20; person p in a temper 3 hears 9; person r in b temper 4 hears 9;");
        Check.years(q, "any;any;any;when raining;say p r;end;");
        for (int many : new int[] {1, 2, 3, 19, 20}) {
            long sum = 0;
            for (int i = 0; i < many; i++) {
                q.mark();
                q.live(77 + i);
                sum += q.house(1, 0);
                q.undo();
            }
            long common = java.math.BigInteger.valueOf(sum).gcd(java.math.BigInteger.valueOf(many)).longValue();
            CHECK.fraction(q, "mean(1, 77, " + many + ")", q.mean(1, 77, many), sum / common, many / common);
        }
        FootQuarrel flat = Check.withStreet("house a wide 0; house b wide 0;");
        Check.years(flat, "");
        CHECK.fraction(flat, "mean of 0", flat.mean(1, 0, 20), 0, 1);
    }

    /** "all stays as it is". */
    private static void meanStays() {
        FootQuarrel q = Scene.rich();
        FootQuarrel without = Scene.rich();
        CHECK.granted(q, "mean", q.mean(0, 9980, 20));
        q.share(1);
        CHECK.due("that mean() changed nothing", Scene.portrait(q).equals(Scene.portrait(without)), true);
    }
}
