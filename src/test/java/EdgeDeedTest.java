/** The boundary cases of what is done: the document's second part, promises 20 to 29, each sentence by itself. */
public final class EdgeDeedTest {
    private static final Check CHECK = new Check();

    public static void main(String[] args) {
        toNeighboursAlone();
        sayWrong();
        loudInRain();
        hearsFromTen();
        angrierThanTemper();
        angerBehindShout();
        wallNoFurtherThanWide();
        towardHisOwnHouse();
        shoutIsNine();
        toAndFro();
        sixShoutsAtMost();
        quarrelFromOneShout();
        latestTwentyKept();
        sorryHalf();
        sorryToTheLeft();
        sorryOfSeveralShouts();
        sorryNoFurther();
        sorryOfThisDay();
        sorryOnce();
        sorryNumbers();
        nightNumbers();
        nightToLastDay();
        nightByCalm();
        nightSet();
        rainIsSo();
        peaceIsSo();
        peaceNumbers();
        moves();
        moveNumbers();
        changes();
        changeNumbers();
        rules();
        surveyAsTold();
        surveyAsFarAsWide();
        surveyNumbers();
        soothes();
        CHECK.finish();
    }

    /** p in the left HOUSE of 50 feet, r in the right one of 50. */
    private static FootQuarrel two(String rules, String ofP, String ofR) {
        return wide(50, 50, rules, ofP, ofR);
    }

    private static FootQuarrel wide(int left, int right, String rules, String ofP, String ofR) {
        return Check.withStreet(rules + "house a wide " + left + "; house b wide " + right + "; person p in a " + ofP
                + "; person r in b " + ofR + ";");
    }

    /** "SAY: one says something to a NEIGHBOUR"; "7: no NEIGHBOUR". */
    private static void toNeighboursAlone() {
        String text = "house a wide 5; house b wide 5; house c wide 5; house d wide 5;"
                + "person p in a hears 9; person r in b hears 9; person s in c hears 9; person t in b hears 9; person u in d hears 9;";
        int[] homes = {0, 1, 2, 1, 3};
        for (int one = 0; one < 5; one++) {
            for (int other = 0; other < 5; other++) {
                if (one == other) {
                    continue;
                }
                FootQuarrel q = Check.withStreet(text);
                boolean near = Math.abs(homes[one] - homes[other]) == 1;
                if (near) {
                    CHECK.fine(q, "say(" + one + ", " + other + ")", q.say(one, other), 0);
                    q.peace(Math.min(homes[one], homes[other]), true);
                }
                CHECK.refused(q, "say(" + one + ", " + other + "), no NEIGHBOUR", q.say(one, other), 7);
                CHECK.due("things said", q.told(11), near ? 1 : 0);
                CHECK.due("who is angry", q.told(8), near ? 1 << other : 0);
            }
        }
    }

    /** say: "(1: one and himself, too ..)". */
    private static void sayWrong() {
        FootQuarrel q = two("", "hears 9", "hears 9");
        int[][] pairs = {{0, 0}, {1, 1}, {0, 2}, {2, 0}, {2, 2}, {-1, 0}, {0, -1}, {-1, -1},
            {Integer.MAX_VALUE, 0}, {0, Integer.MIN_VALUE}};
        for (int[] pair : pairs) {
            CHECK.refused(q, "say(" + pair[0] + ", " + pair[1] + ")", q.say(pair[0], pair[1]), 1);
        }
        CHECK.due("nothing was said", q.told(11), 0);
        CHECK.due("nobody is angry", q.told(8), 0);
    }

    /** "LOUD is .. the VOICE of who says it .., 2 less while it rains (0 at least)". */
    private static void loudInRain() {
        for (int voice = 1; voice <= 9; voice++) {
            FootQuarrel q = two("", "voice " + voice, "temper 30 hears 9");
            q.say(0, 1);
            CHECK.due("ANGER by VOICE " + voice, q.person(1, 5), voice);
            q.soothe(1);
            q.rain(true);
            q.say(0, 1);
            CHECK.due("ANGER by VOICE " + voice + " in rain", q.person(1, 5), Math.max(0, voice - 2));
            q.soothe(1);
            q.rain(false);
            q.say(0, 1);
            CHECK.due("ANGER by VOICE " + voice + ", dry again", q.person(1, 5), voice);
        }
    }

    /** "One HEARS it, if LOUD and his HEARS together are 10 or more." Every VOICE with every HEARS. */
    private static void hearsFromTen() {
        for (int rain = 0; rain < 2; rain++) {
            for (int voice = 1; voice <= 9; voice++) {
                for (int ears = 0; ears <= 9; ears++) {
                    FootQuarrel q = two("", "voice " + voice, "temper 30 hears " + ears);
                    q.rain(rain == 1);
                    int loud = Math.max(0, voice - 2 * rain);
                    CHECK.fine(q, "say", q.say(0, 1), 0);
                    CHECK.due("ANGER by LOUD " + loud + " and HEARS " + ears, q.person(1, 5), loud + ears >= 10 ? loud : 0);
                    CHECK.due("something was said, heard or not", q.told(11), 1);
                }
            }
        }
    }

    /** "if he is ANGRIER than his TEMPER then, he SHOUTS": not if he is as ANGRY. Every TEMPER by every VOICE. */
    private static void angrierThanTemper() {
        for (int temper = 0; temper <= 30; temper++) {
            for (int voice = 1; voice <= 9; voice++) {
                FootQuarrel q = two("", "temper 30 hears 0 voice " + voice, "temper " + temper + " hears 9");
                int borne = temper / voice;
                for (int i = 1; i <= borne; i++) {
                    CHECK.due("say that is borne", q.say(0, 1), 0);
                }
                CHECK.due("ANGER that is borne", q.person(1, 5), borne * voice);
                CHECK.fine(q, "say that isn't borne", q.say(0, 1), 1);
            }
        }
    }

    /** "his ANGER is 0". */
    private static void angerBehindShout() {
        FootQuarrel q = two("", "temper 30 hears 0 voice 7", "temper 10 hears 9");
        q.say(0, 1);
        q.say(0, 1);
        CHECK.due("ANGER behind the SHOUT", q.person(1, 5), 0);
        CHECK.due("who didn't hear the SHOUT", q.person(0, 5), 0);
        FootQuarrel heard = two("", "temper 30 hears 1 voice 7", "temper 0 hears 9");
        heard.say(0, 1);
        CHECK.due("ANGER behind the SHOUT that is heard", heard.person(1, 5), 0);
        CHECK.due("who heard the SHOUT", heard.person(0, 5), 9);
    }

    /** "the WALL goes FOOT toward his HOUSE .., but no further than it is WIDE". Every FOOT by widths around it. */
    private static void wallNoFurtherThanWide() {
        for (int foot = 1; foot <= 9; foot++) {
            for (int width = 0; width <= foot + 1; width++) {
                FootQuarrel right = wide(20, width, "foot " + foot + ";", "temper 30 hears 0", "temper 0 hears 9");
                CHECK.fine(right, "a SHOUT in the right HOUSE", right.say(0, 1), 1);
                int goes = Math.min(foot, width);
                String by = "by FOOT " + foot + " of " + width;
                CHECK.due("the right HOUSE " + by, right.house(1, 0), width - goes);
                CHECK.due("the left HOUSE " + by, right.house(0, 0), 20 + goes);
                CHECK.due("the WALL " + by, right.wall(0), 20 + goes);
                CHECK.due("lost " + by, right.house(1, 3), goes);
                CHECK.due("the QUARREL's feet " + by, right.quarrel(0, 5), goes);
                FootQuarrel left = wide(width, 20, "foot " + foot + ";", "temper 0 hears 9", "temper 30 hears 0");
                CHECK.fine(left, "a SHOUT in the left HOUSE", left.say(1, 0), 1);
                CHECK.due("the left HOUSE, its SHOUT " + by, left.house(0, 0), width - goes);
                CHECK.due("the right HOUSE, the left one's SHOUT " + by, left.house(1, 0), 20 + goes);
                CHECK.due("the WALL, the left one's SHOUT " + by, left.wall(0), width - goes);
                CHECK.due("the QUARREL's feet, the left one's SHOUT " + by, left.quarrel(0, 5), -goes);
            }
        }
    }

    /** "(toward his own HOUSE) likewise": who lives between two others loses land on the side of the QUARREL. */
    private static void towardHisOwnHouse() {
        FootQuarrel q = Check.withStreet("foot 2; house a wide 9; house b wide 9; house c wide 9; person p in a temper 0 hears 9;"
                + "person r in b temper 0 hears 9; person s in c temper 30 hears 0; person t in a temper 30 hears 0;");
        CHECK.fine(q, "across WALL 1", q.say(2, 1), 1);
        CHECK.due("wall(0) stays", q.wall(0), 9);
        CHECK.due("wall(1) goes left", q.wall(1), 16);
        CHECK.due("the HOUSE on the right", q.house(2, 0), 11);
        CHECK.fine(q, "across WALL 0", q.say(3, 1), 1);
        CHECK.due("wall(0) goes right", q.wall(0), 11);
        CHECK.due("wall(1) stays", q.wall(1), 16);
        CHECK.due("the HOUSE between", q.house(1, 0), 5);
        CHECK.due("who lives in the same HOUSE hears nothing of it", q.person(0, 5), 0);
    }

    /** "(9 for a SHOUT)": 9 and HEARS 1 are heard, 9 and 0 aren't; in rain 7 and 3, 7 and 2. */
    private static void shoutIsNine() {
        for (int ears = 0; ears <= 9; ears++) {
            FootQuarrel dry = two("", "temper 30 hears " + ears + " voice 1", "temper 0 hears 9");
            CHECK.fine(dry, "a SHOUT", dry.say(0, 1), 1);
            CHECK.due("ANGER by a SHOUT, HEARS " + ears, dry.person(0, 5), ears >= 1 ? 9 : 0);
            FootQuarrel wet = two("", "temper 30 hears " + ears + " voice 3", "temper 0 hears 9");
            wet.rain(true);
            CHECK.fine(wet, "a SHOUT in rain", wet.say(0, 1), 1);
            CHECK.due("ANGER by a SHOUT in rain, HEARS " + ears, wet.person(0, 5), ears >= 3 ? 7 : 0);
        }
        FootQuarrel as = two("", "temper 9 hears 1", "temper 0 hears 9");
        CHECK.fine(as, "who is as ANGRY as his TEMPER by a SHOUT", as.say(0, 1), 1);
        FootQuarrel above = two("", "temper 8 hears 1", "temper 0 hears 4 voice 1");
        CHECK.fine(above, "not heard", above.say(0, 1), 0);
        above.change(0, 3, 6);
        CHECK.fine(above, "who is ANGRIER than his TEMPER by a SHOUT, 8", above.say(0, 1), 6);
    }

    /** "who said it to him is told the SHOUT, and HEARS, is ANGRIER, SHOUTS likewise; and so on to and fro". */
    private static void toAndFro() {
        // 0: not heard. 1: p bears the SHOUT. 2: r bears p's SHOUT. 3: p bears r's second one. 6: nobody bears any.
        shouts("temper 0 hears 0 voice 5", "temper 0 hears 4", 0, 0, 0);
        shouts("temper 9 hears 9 voice 5", "temper 0 hears 9", 1, 9, 0);
        shouts("temper 8 hears 9 voice 5", "temper 9 hears 9", 0, 0, 5);
        shouts("temper 0 hears 9 voice 5", "temper 0 hears 9", 6, 0, 0);
        FootQuarrel second = two("foot 2;", "temper 8 hears 9 voice 5", "temper 9 hears 9");
        second.say(0, 1);
        CHECK.fine(second, "two SHOUTS", second.say(0, 1), 2);
        CHECK.due("p, who SHOUTED", second.person(0, 5), 0);
        CHECK.due("r, who bore it", second.person(1, 5), 9);
        CHECK.due("the WALL is where it was", second.wall(0), 50);
        FootQuarrel third = two("foot 2;", "temper 9 hears 9 voice 5", "temper 0 hears 9");
        third.say(1, 0);
        CHECK.fine(third, "three SHOUTS", third.say(0, 1), 3);
        CHECK.due("p, who SHOUTED once", third.person(0, 6), 1);
        CHECK.due("p, who bore the second one", third.person(0, 5), 9);
        CHECK.due("r, who SHOUTED twice", third.person(1, 6), 2);
        CHECK.due("the WALL", third.wall(0), 52);
        CHECK.due("the QUARREL's SHOUTS", third.quarrel(0, 4), 3);
    }

    private static void shouts(String ofP, String ofR, int many, int angerOfP, int angerOfR) {
        FootQuarrel q = two("", ofP, ofR);
        CHECK.fine(q, "say: p " + ofP + ", r " + ofR, q.say(0, 1), many);
        CHECK.due("ANGER of p behind " + many, q.person(0, 5), angerOfP);
        CHECK.due("ANGER of r behind " + many, q.person(1, 5), angerOfR);
        CHECK.due("SHOUTS in all", q.told(12), many);
    }

    /** "at most 6 SHOUTS (of the 6th one nobody is told)". */
    private static void sixShoutsAtMost() {
        FootQuarrel q = wide(2, 50, "foot 1;", "temper 0 hears 9", "temper 0 hears 9");
        CHECK.fine(q, "six SHOUTS", q.say(0, 1), 6);
        CHECK.due("of p", q.person(0, 6), 3);
        CHECK.due("of r", q.person(1, 6), 3);
        CHECK.due("in all", q.told(12), 6);
        CHECK.due("of the QUARREL", q.quarrel(0, 4), 6);
        CHECK.due("p behind the 6th, his own", q.person(0, 5), 0);
        CHECK.due("r isn't told the 6th", q.person(1, 5), 0);
        CHECK.due("the WALL", q.wall(0), 2);
        CHECK.due("lost by p's HOUSE", q.house(0, 3), 3);
        CHECK.due("lost by r's HOUSE", q.house(1, 3), 3);
        CHECK.due("one thing was said", q.told(11), 1);
        CHECK.fine(q, "six more", q.say(1, 0), 6);
        CHECK.due("in all", q.told(12), 12);
    }

    /** "A QUARREL is a SAY with one SHOUT at least". */
    private static void quarrelFromOneShout() {
        FootQuarrel q = two("", "temper 30 hears 0 voice 5", "temper 5 hears 9");
        q.say(0, 1);
        CHECK.due("a SAY without a SHOUT", q.told(2), 0);
        CHECK.refused(q, "quarrel(0, 0)", q.quarrel(0, 0), 1);
        q.say(0, 1);
        CHECK.due("a SAY with a SHOUT", q.told(2), 1);
        FootQuarrel flat = wide(5, 0, "", "temper 30 hears 0", "temper 0 hears 9");
        flat.say(0, 1);
        CHECK.due("a SHOUT that moves nothing", flat.told(2), 1);
    }

    /** "the latest 20 are kept". */
    private static void latestTwentyKept() {
        FootQuarrel q = two("", "temper 30 hears 0", "temper 0 hears 9");
        for (int i = 1; i <= 45; i++) {
            q.say(0, 1);
            q.night(1);
            CHECK.due("kept of " + i, q.told(2), Math.min(20, i));
        }
        for (int k = 0; k < 20; k++) {
            CHECK.due("the DAY of QUARREL " + k, q.quarrel(k, 0), 44 - k);
        }
        CHECK.refused(q, "quarrel(20, 0)", q.quarrel(20, 0), 1);
        CHECK.refused(q, "sorry(20)", q.sorry(20), 1);
    }

    /** "the WALL goes back by half of what it has gone .. (rounded down) ..; it is halved (also if that is 0)". */
    private static void sorryHalf() {
        for (int foot = 1; foot <= 9; foot++) {
            FootQuarrel q = two("foot " + foot + ";", "temper 30 hears 0", "temper 0 hears 9");
            q.say(0, 1);
            CHECK.fine(q, "sorry(0) of " + foot + " feet", q.sorry(0), foot / 2);
            CHECK.due("the WALL", q.wall(0), 50 + foot - foot / 2);
            CHECK.due("the right HOUSE", q.house(1, 0), 50 - foot + foot / 2);
            CHECK.due("it is halved", q.quarrel(0, 6), 1);
            CHECK.refused(q, "sorry(0) again", q.sorry(0), 7);
        }
        FootQuarrel none = wide(50, 0, "foot 9;", "temper 30 hears 0", "temper 0 hears 9");
        none.say(0, 1);
        CHECK.fine(none, "sorry(0) of 0 feet", none.sorry(0), 0);
        CHECK.due("it is halved", none.quarrel(0, 6), 1);
        CHECK.refused(none, "sorry(0) of 0 feet again", none.sorry(0), 7);
    }

    /** The WALL went to the left: it goes back to the right, and the feet are told as a number above 0. */
    private static void sorryToTheLeft() {
        for (int foot = 1; foot <= 9; foot++) {
            FootQuarrel q = two("foot " + foot + ";", "temper 0 hears 9", "temper 30 hears 0");
            q.say(1, 0);
            CHECK.fine(q, "sorry(0) of " + foot + " feet to the left", q.sorry(0), foot / 2);
            CHECK.due("the WALL", q.wall(0), 50 - foot + foot / 2);
        }
    }

    /** "what it has gone in it to one side, all in all". */
    private static void sorryOfSeveralShouts() {
        FootQuarrel even = two("foot 8;", "temper 0 hears 9", "temper 0 hears 9");
        even.say(0, 1);
        CHECK.fine(even, "six SHOUTS, 0 feet all in all", even.sorry(0), 0);
        CHECK.due("the WALL", even.wall(0), 50);
        FootQuarrel three = two("foot 5;", "temper 9 hears 9", "temper 0 hears 9");
        three.say(1, 0);
        CHECK.due("three SHOUTS", three.say(0, 1), 3);
        CHECK.fine(three, "three SHOUTS, 5 feet all in all", three.sorry(0), 2);
        CHECK.due("the WALL", three.wall(0), 53);
        // r has 3 feet: it loses 3, gets 5, loses 5, gets 5, loses 5, gets 5: 2 to the left all in all.
        FootQuarrel narrow = wide(50, 3, "foot 5;", "temper 0 hears 9", "temper 0 hears 9");
        narrow.say(0, 1);
        CHECK.due("the feet", narrow.quarrel(0, 5), -2);
        CHECK.fine(narrow, "sorry(0) of 2 feet to the left", narrow.sorry(0), 1);
        CHECK.due("the WALL", narrow.wall(0), 49);
    }

    /** "but no further than there is to go". */
    private static void sorryNoFurther() {
        for (int left = 0; left <= 5; left++) {
            // The WALL goes 8 to the right; then a's land goes to z, but for so many feet.
            FootQuarrel q = Check.withStreet("foot 8; house z wide 9; house a wide 0; house b wide 9; person o in z temper 30 hears 0;"
                    + "person p in a temper 30 hears 0; person r in b temper 0 hears 9;");
            q.say(1, 2);
            CHECK.due("a has", q.house(1, 0), 8);
            q.change(1, 1, 0);
            q.change(1, 2, 9);
            q.rule(8 - left);
            CHECK.due("a SHOUT toward a", q.say(0, 1), 1);
            CHECK.due("a has left", q.house(1, 0), left);
            CHECK.fine(q, "sorry(1) of 8 feet, " + left + " to go", q.sorry(1), Math.min(4, left));
            CHECK.due("a behind it", q.house(1, 0), left - Math.min(4, left));
            CHECK.due("b behind it", q.house(2, 0), 1 + Math.min(4, left));
            CHECK.due("it is halved", q.quarrel(1, 6), 1);
        }
    }

    /** "of a QUARREL of this DAY"; "7: another DAY". */
    private static void sorryOfThisDay() {
        FootQuarrel q = two("foot 4;", "temper 30 hears 0", "temper 0 hears 9");
        q.say(0, 1);
        q.night(1);
        CHECK.refused(q, "sorry(0) of yesterday", q.sorry(0), 7);
        CHECK.due("it isn't halved", q.quarrel(0, 6), 0);
        CHECK.due("the WALL stays", q.wall(0), 54);
        q.say(0, 1);
        CHECK.refused(q, "sorry(1) of yesterday", q.sorry(1), 7);
        CHECK.fine(q, "sorry(0) of today", q.sorry(0), 2);
        q.night(99);
        CHECK.refused(q, "sorry(0), halved, of another DAY", q.sorry(0), 7);
    }

    /** "not halved yet": each QUARREL by itself. */
    private static void sorryOnce() {
        FootQuarrel q = two("foot 2;", "temper 30 hears 0", "temper 0 hears 9");
        for (int i = 0; i < 20; i++) {
            q.say(0, 1);
        }
        for (int k = 19; k >= 0; k--) {
            CHECK.fine(q, "sorry(" + k + ")", q.sorry(k), 1);
            CHECK.refused(q, "sorry(" + k + ") again", q.sorry(k), 7);
        }
        q.say(0, 1);
        CHECK.refused(q, "sorry(1), halved as the latest", q.sorry(1), 7);
        CHECK.fine(q, "sorry(0), the new one", q.sorry(0), 1);
    }

    /** sorry: "(1 ..)". */
    private static void sorryNumbers() {
        FootQuarrel q = two("", "temper 30 hears 0", "temper 0 hears 9");
        CHECK.refused(q, "sorry(0) without a QUARREL", q.sorry(0), 1);
        q.say(0, 1);
        for (int k : new int[] {-1, 1, 20, Integer.MAX_VALUE, Integer.MIN_VALUE}) {
            CHECK.refused(q, "sorry(" + k + ") of one", q.sorry(k), 1);
        }
        CHECK.fine(q, "sorry(0) of one", q.sorry(0), 0);
    }

    /** night: "So many NIGHTS (1 to 99)". */
    private static void nightNumbers() {
        FootQuarrel q = new FootQuarrel();
        for (int many : new int[] {-1, 0, 100, Integer.MAX_VALUE, Integer.MIN_VALUE}) {
            CHECK.refused(q, "night(" + many + ")", q.night(many), 1);
            CHECK.due("the DAY stays", q.told(6), 0);
        }
        CHECK.fine(q, "night(1)", q.night(1), 0);
        CHECK.due("the DAY", q.told(6), 1);
        CHECK.fine(q, "night(99)", q.night(99), 0);
        CHECK.due("the DAY", q.told(6), 100);
    }

    /** "NIGHT (to DAY 9,999)"; "4: above DAY 9,999". */
    private static void nightToLastDay() {
        FootQuarrel q = two("", "", "hears 9");
        for (int i = 0; i < 100; i++) {
            q.night(99);
        }
        CHECK.due("the DAY", q.told(6), 9900);
        q.mark();
        CHECK.fine(q, "night(99) to DAY 9,999", q.night(99), 0);
        CHECK.due("the last DAY", q.told(6), 9999);
        q.say(0, 1);
        CHECK.refused(q, "night(1) at the last DAY", q.night(1), 4);
        CHECK.refused(q, "night(99) at the last DAY", q.night(99), 4);
        CHECK.due("the DAY stays", q.told(6), 9999);
        CHECK.due("ANGER stays", q.person(1, 5), 5);
        q.undo();
        q.night(1);
        CHECK.refused(q, "night(99) at DAY 9,901", q.night(99), 4);
        CHECK.due("the DAY stays", q.told(6), 9901);
        CHECK.fine(q, "night(98) at DAY 9,901", q.night(98), 0);
        CHECK.due("the last DAY", q.told(6), 9999);
    }

    /** "all are less ANGRY by CALM (0 at least), the DAY is 1 more." */
    private static void nightByCalm() {
        for (int calm = 0; calm <= 9; calm++) {
            for (int nights = 1; nights <= 4; nights++) {
                FootQuarrel q = two("calm " + calm + ";", "temper 30 hears 9 voice 9", "temper 30 hears 9 voice 4");
                q.say(0, 1);
                q.say(1, 0);
                q.night(nights);
                CHECK.due("9 less " + nights + " times " + calm, q.person(1, 5), Math.max(0, 9 - nights * calm));
                CHECK.due("4 less " + nights + " times " + calm, q.person(0, 5), Math.max(0, 4 - nights * calm));
                CHECK.due("the DAY", q.told(6), nights);
            }
        }
    }

    /** "the set of PEOPLE still angry". */
    private static void nightSet() {
        FootQuarrel q = two("calm 4;", "temper 30 hears 9 voice 9", "temper 30 hears 9 voice 4");
        q.say(0, 1);
        q.say(1, 0);
        CHECK.fine(q, "one is ANGRY by 5, one by 0", q.night(1), 2);
        CHECK.fine(q, "one is ANGRY by 1", q.night(1), 2);
        CHECK.fine(q, "nobody is", q.night(1), 0);
        FootQuarrel never = two("calm 0;", "temper 30 hears 9", "temper 30 hears 9");
        never.say(0, 1);
        never.say(1, 0);
        CHECK.fine(never, "all are, without CALM", never.night(99), 3);
    }

    /** rain: "7: it is so". */
    private static void rainIsSo() {
        FootQuarrel q = new FootQuarrel();
        CHECK.denied(q, "dry while it is dry", q.rain(false), 7);
        CHECK.due("told(7)", q.told(7), 0);
        CHECK.granted(q, "rain while it is dry", q.rain(true));
        CHECK.denied(q, "rain while it rains", q.rain(true), 7);
        CHECK.due("told(7)", q.told(7), 1);
        q.night(1);
        CHECK.due("it rains on the next DAY, too", q.told(7), 1);
        CHECK.granted(q, "dry while it rains", q.rain(false));
        CHECK.due("told(7)", q.told(7), 0);
    }

    /** peace: "PEACE at a WALL, or an end of it (1; 7: it is so)". */
    private static void peaceIsSo() {
        FootQuarrel q = Check.withStreet("house a wide 1; house b wide 1; house c wide 1; peace b c;");
        CHECK.denied(q, "an end of none", q.peace(0, false), 7);
        CHECK.denied(q, "PEACE at PEACE", q.peace(1, true), 7);
        CHECK.due("told(9)", q.told(9), 2);
        CHECK.granted(q, "PEACE", q.peace(0, true));
        CHECK.granted(q, "an end of it", q.peace(1, false));
        CHECK.due("told(9)", q.told(9), 1);
        CHECK.denied(q, "PEACE at PEACE", q.peace(0, true), 7);
        CHECK.denied(q, "an end of none", q.peace(1, false), 7);
    }

    private static void peaceNumbers() {
        FootQuarrel q = Check.withStreet("house a wide 1; house b wide 1; house c wide 1;");
        for (int wall : new int[] {-1, 2, 31, 32, 33, Integer.MAX_VALUE, Integer.MIN_VALUE}) {
            CHECK.denied(q, "peace(" + wall + ", true)", q.peace(wall, true), 1);
            CHECK.denied(q, "peace(" + wall + ", false)", q.peace(wall, false), 1);
        }
        CHECK.due("told(9)", q.told(9), 0);
        FootQuarrel one = Check.withStreet("house a wide 1;");
        CHECK.denied(one, "peace(0, true) of one HOUSE", one.peace(0, true), 1);
        FootQuarrel none = new FootQuarrel();
        CHECK.denied(none, "peace(0, true) of no HOUSES", none.peace(0, true), 1);
    }

    /** move: "which it was (.. 7: he lives there)". */
    private static void moves() {
        FootQuarrel q = Check.withStreet("house a wide 1; house b wide 1; house c wide 1; person p in a; person r in b;");
        CHECK.refused(q, "move(0, 0)", q.move(0, 0), 7);
        CHECK.fine(q, "move(0, 2), two HOUSES on", q.move(0, 2), 0);
        CHECK.refused(q, "move(0, 2) again", q.move(0, 2), 7);
        CHECK.fine(q, "move(0, 1), where another one lives", q.move(0, 1), 2);
        CHECK.due("who lives there", q.house(1, 2), 3);
        CHECK.fine(q, "move(0, 0), back", q.move(0, 0), 1);
        q.peace(0, true);
        CHECK.fine(q, "move(0, 1) at PEACE", q.move(0, 1), 0);
    }

    private static void moveNumbers() {
        FootQuarrel q = Check.withStreet("house a wide 1; house b wide 1; house c wide 1; person p in a; person r in b;");
        for (int none : new int[] {-1, 2, Integer.MAX_VALUE, Integer.MIN_VALUE}) {
            CHECK.refused(q, "move(" + none + ", 0)", q.move(none, 0), 1);
        }
        for (int none : new int[] {-1, 3, Integer.MAX_VALUE, Integer.MIN_VALUE}) {
            CHECK.refused(q, "move(0, " + none + ")", q.move(0, none), 1);
        }
        CHECK.due("person(0, 0)", q.person(0, 0), 0);
        CHECK.due("person(1, 0)", q.person(1, 0), 1);
        CHECK.fine(q, "move(1, 2), the last ones", q.move(1, 2), 1);
    }

    /** change: "TEMPER (what 1: 0 to 30), HEARS (2: 0 to 9), VOICE (3: 1 to 9), PAY (4: 0 to 99)". */
    private static void changes() {
        int[] least = {0, 0, 0, 1, 0};
        int[] most = {0, 30, 9, 9, 99};
        for (int what = 1; what <= 4; what++) {
            FootQuarrel q = two("", "temper 3 hears 3 voice 3 pay 3", "temper 4 hears 4 voice 4 pay 4");
            for (int much = least[what]; much <= most[what]; much++) {
                CHECK.granted(q, "change(1, " + what + ", " + much + ")", q.change(1, what, much));
                CHECK.due("person(1, " + what + ")", q.person(1, what), much);
            }
            for (int much : new int[] {least[what] - 1, most[what] + 1, Integer.MAX_VALUE, Integer.MIN_VALUE}) {
                CHECK.denied(q, "change(1, " + what + ", " + much + ")", q.change(1, what, much), 1);
                CHECK.due("person(1, " + what + ") stays", q.person(1, what), most[what]);
            }
            for (int other = 1; other <= 4; other++) {
                CHECK.due("of the other one", q.person(0, other), 3);
                if (other != what) {
                    CHECK.due("what else there is", q.person(1, other), 4);
                }
            }
        }
    }

    private static void changeNumbers() {
        FootQuarrel q = two("", "", "");
        for (int what : new int[] {-1, 0, 5, 6, Integer.MAX_VALUE, Integer.MIN_VALUE}) {
            CHECK.denied(q, "change(0, " + what + ", 0)", q.change(0, what, 0), 1);
            CHECK.denied(q, "change(0, " + what + ", 1)", q.change(0, what, 1), 1);
        }
        for (int none : new int[] {-1, 2, Integer.MAX_VALUE, Integer.MIN_VALUE}) {
            CHECK.denied(q, "change(" + none + ", 1, 1)", q.change(none, 1, 1), 1);
        }
        CHECK.due("as it was", Scene.state(q).equals(Scene.state(two("", "", ""))), true);
    }

    /** rule: "FOOT from now on (1 to 9) (1)". */
    private static void rules() {
        for (int foot = 1; foot <= 9; foot++) {
            FootQuarrel q = two("foot 5;", "temper 30 hears 0", "temper 0 hears 9");
            CHECK.granted(q, "rule(" + foot + ")", q.rule(foot));
            CHECK.due("told(3)", q.told(3), foot);
            q.say(0, 1);
            CHECK.due("the WALL", q.wall(0), 50 + foot);
        }
        FootQuarrel q = two("foot 5;", "", "");
        for (int foot : new int[] {-1, 0, 10, Integer.MAX_VALUE, Integer.MIN_VALUE}) {
            CHECK.denied(q, "rule(" + foot + ")", q.rule(foot), 1);
            CHECK.due("told(3) stays", q.told(3), 5);
        }
        CHECK.granted(q, "rule(5), as it is", q.rule(5));
    }

    /** survey: "a WALL is put where it was told: feet by which it goes to the right (below 0: to the left)". */
    private static void surveyAsTold() {
        FootQuarrel q = two("foot 1;", "temper 30 hears 0", "temper 0 hears 9");
        CHECK.fine(q, "where it was told", q.survey(0), 0);
        q.say(0, 1);
        CHECK.fine(q, "1 foot to the left", q.survey(0), -1);
        CHECK.due("STATUS tells -1 from NONE", q.status(), 0);
        CHECK.due("the WALL", q.wall(0), 50);
        CHECK.fine(q, "again", q.survey(0), 0);
        FootQuarrel right = two("foot 9;", "temper 0 hears 9", "temper 30 hears 0");
        for (int i = 0; i < 6; i++) {
            right.say(1, 0);
        }
        CHECK.due("the left HOUSE has no land", right.house(0, 0), 0);
        CHECK.fine(right, "50 feet to the right", right.survey(0), 50);
        CHECK.due("the WALL", right.wall(0), 50);
    }

    /** "as far as the HOUSE on that side is WIDE". */
    private static void surveyAsFarAsWide() {
        for (int foot = 1; foot <= 9; foot++) {
            // WALL 0 goes left by 5; then b, 9 feet WIDE, loses FOOT to c.
            FootQuarrel q = Check.withStreet("foot 5; house a wide 5; house b wide 4; house c wide 9; person p in a temper 0 hears 9;"
                    + "person r in b temper 30 hears 0; person s in c temper 30 hears 0;");
            CHECK.due("a SHOUT toward a", q.say(1, 0), 1);
            CHECK.due("b has", q.house(1, 0), 9);
            q.change(1, 1, 0);
            q.change(1, 2, 9);
            q.rule(foot);
            CHECK.due("a SHOUT toward b", q.say(2, 1), 1);
            int left = 9 - foot;
            CHECK.due("b has left", q.house(1, 0), left);
            int goes = Math.min(5, left);
            CHECK.fine(q, "survey(0) to the right, " + left + " to go", q.survey(0), goes);
            CHECK.due("a", q.house(0, 0), goes);
            CHECK.due("b", q.house(1, 0), left - goes);
            CHECK.due("c", q.house(2, 0), 9 + foot);
        }
        for (int foot = 1; foot <= 9; foot++) {
            // The same the other way: WALL 1 goes right by 5; then b loses FOOT to a.
            FootQuarrel q = Check.withStreet("foot 5; house a wide 9; house b wide 4; house c wide 5; person p in a temper 30 hears 0;"
                    + "person r in b temper 30 hears 0; person s in c temper 0 hears 9;");
            CHECK.due("a SHOUT toward c", q.say(1, 2), 1);
            q.change(1, 1, 0);
            q.change(1, 2, 9);
            q.rule(foot);
            CHECK.due("a SHOUT toward b", q.say(0, 1), 1);
            int left = 9 - foot;
            int goes = Math.min(5, left);
            CHECK.fine(q, "survey(1) to the left, " + left + " to go", q.survey(1), -goes);
            CHECK.due("b", q.house(1, 0), left - goes);
            CHECK.due("c", q.house(2, 0), goes);
        }
    }

    private static void surveyNumbers() {
        FootQuarrel q = two("foot 2;", "temper 30 hears 0", "temper 0 hears 9");
        q.say(0, 1);
        for (int wall : new int[] {-1, 1, Integer.MAX_VALUE, Integer.MIN_VALUE}) {
            CHECK.refused(q, "survey(" + wall + ")", q.survey(wall), 1);
        }
        CHECK.due("the WALL stays", q.wall(0), 52);
        FootQuarrel none = new FootQuarrel();
        CHECK.refused(none, "survey(0) of no HOUSES", none.survey(0), 1);
        FootQuarrel one = Check.withStreet("house a wide 1;");
        CHECK.refused(one, "survey(0) of one HOUSE", one.survey(0), 1);
    }

    /** soothe: "his ANGER is 0: how much it was (1)". */
    private static void soothes() {
        FootQuarrel q = two("", "hears 9", "temper 30 hears 9 voice 1");
        for (int i = 0; i < 6; i++) {
            q.say(0, 1);
        }
        q.say(1, 0);
        CHECK.fine(q, "soothe(1), as ANGRY as can be", q.soothe(1), 30);
        CHECK.due("his ANGER", q.person(1, 5), 0);
        CHECK.due("the other one's", q.person(0, 5), 1);
        CHECK.fine(q, "soothe(1), not ANGRY", q.soothe(1), 0);
        CHECK.fine(q, "soothe(0), by 1", q.soothe(0), 1);
        for (int none : new int[] {-1, 2, Integer.MAX_VALUE, Integer.MIN_VALUE}) {
            CHECK.refused(q, "soothe(" + none + ")", q.soothe(none), 1);
        }
    }
}
