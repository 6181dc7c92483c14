/** The boundary cases of what would be, promises 30 to 43, each sentence by itself. */
public final class EdgeWouldBeTest {
    private static final Check CHECK = new Check();
    private static final int[] NOBODY_OF_TWO = {-1, 2, 8, Integer.MAX_VALUE, Integer.MIN_VALUE};
    private static final int[][] NO_PAIRS_OF_TWO = {{0, 0}, {1, 1}, {0, 2}, {2, 0}, {2, 2}, {-1, 0}, {0, -1}, {-1, -1},
        {Integer.MAX_VALUE, 0}, {0, Integer.MIN_VALUE}};

    public static void main(String[] args) {
        loudNumbers();
        loudInRain();
        hearsFromTen();
        hearsWherever();
        hearsPairs();
        heardByNobodyAndAll();
        shoutsByPairs();
        shoutsByNoneToSix();
        gainByPairs();
        gainByEdges();
        bestToAboveNone();
        bestToFirst();
        bestToOfEight();
        dangersFromTemper();
        dangersOfEight();
        quietEdges();
        quietOfNobody();
        baitPairs();
        baitCounts();
        baitNever();
        leastVoicePairs();
        leastVoiceEdges();
        leastVoiceInRain();
        angerInNights();
        angerInNumbers();
        calmInNights();
        calmInNever();
        calmInAtLastDay();
        hireNumbers();
        hireNever();
        hireFromTemper();
        hireByPay();
        hireFewest();
        hireLeastNumber();
        hireOfEight();
        hireInRain();
        hireWhateverOthersShout();
        allStays();
        CHECK.finish();
    }

    private static FootQuarrel two(String rules, String ofP, String ofR) {
        return Check.withStreet(rules + "house a wide 50; house b wide 50; person p in a " + ofP + "; person r in b " + ofR + ";");
    }

    /** One PERSON in the left HOUSE, seven in the right one. */
    private static FootQuarrel oneAndSeven(String ofFirst, String ofOthers) {
        StringBuilder text = new StringBuilder("house a wide 50; house b wide 50; person pa in a " + ofFirst + ";");
        for (char c = 'b'; c <= 'h'; c++) {
            text.append("person p").append(c).append(" in b ").append(ofOthers).append(";");
        }
        return Check.withStreet(text.toString());
    }

    private static void loudNumbers() {
        FootQuarrel q = two("", "voice 1", "voice 9");
        CHECK.fine(q, "loud(0), the least", q.loud(0), 1);
        CHECK.fine(q, "loud(1), the most", q.loud(1), 9);
        for (int none : NOBODY_OF_TWO) {
            CHECK.refused(q, "loud(" + none + ")", q.loud(none), 1);
        }
    }

    /** "2 less while it rains (0 at least)". */
    private static void loudInRain() {
        FootQuarrel q = two("", "", "");
        for (int voice = 1; voice <= 9; voice++) {
            q.change(0, 3, voice);
            CHECK.fine(q, "loud(0), dry", q.loud(0), voice);
            q.rain(true);
            CHECK.fine(q, "loud(0) in rain", q.loud(0), Math.max(0, voice - 2));
            q.rain(false);
        }
    }

    /** "if LOUD and his HEARS together are 10 or more". */
    private static void hearsFromTen() {
        FootQuarrel q = two("", "", "");
        for (int voice = 1; voice <= 9; voice++) {
            q.change(1, 3, voice);
            for (int ears = Math.max(0, 8 - voice); ears <= 9; ears++) {
                q.change(0, 2, ears);
                CHECK.fine(q, "hears by " + voice + " and " + ears, q.hears(0, 1), voice + ears >= 10 ? 1 : 0);
                CHECK.fine(q, "heardBy by " + voice + " and " + ears, q.heardBy(1), voice + ears >= 10 ? 1 : 0);
            }
        }
        FootQuarrel wet = two("", "hears 9", "hears 5 voice 3");
        wet.rain(true);
        CHECK.fine(wet, "hears by 1 and 9 in rain", wet.hears(0, 1), 1);
        wet.change(1, 3, 2);
        CHECK.fine(wet, "hears by 0 and 9 in rain", wet.hears(0, 1), 0);
        wet.change(1, 3, 1);
        CHECK.fine(wet, "hears by 0 and 9 in rain, VOICE 1", wet.hears(0, 1), 0);
    }

    /** "wherever they live". */
    private static void hearsWherever() {
        FootQuarrel q = Check.withStreet("house a wide 1; house b wide 1; house c wide 1; person p in a; person r in a; person s in b; person t in c;");
        for (int peace = 0; peace < 2; peace++) {
            for (int one = 0; one < 4; one++) {
                for (int other = 0; other < 4; other++) {
                    if (one != other) {
                        CHECK.fine(q, "hears(" + one + ", " + other + ")", q.hears(one, other), 1);
                    }
                }
                CHECK.fine(q, "heardBy(" + one + ")", q.heardBy(one), 15 & ~(1 << one));
            }
            q.peace(0, true);
        }
    }

    /** hears: "(1: one and himself, too)". */
    private static void hearsPairs() {
        FootQuarrel q = two("", "hears 9", "hears 9");
        for (int[] pair : NO_PAIRS_OF_TWO) {
            CHECK.refused(q, "hears(" + pair[0] + ", " + pair[1] + ")", q.hears(pair[0], pair[1]), 1);
        }
        for (int none : NOBODY_OF_TWO) {
            CHECK.refused(q, "heardBy(" + none + ")", q.heardBy(none), 1);
        }
    }

    /** "himself not". */
    private static void heardByNobodyAndAll() {
        FootQuarrel all = oneAndSeven("hears 9 voice 9", "hears 9 voice 9");
        CHECK.fine(all, "heardBy(0)", all.heardBy(0), 254);
        CHECK.fine(all, "heardBy(7)", all.heardBy(7), 127);
        FootQuarrel none = oneAndSeven("hears 0 voice 9", "hears 0 voice 9");
        CHECK.fine(none, "heardBy(0) of nobody", none.heardBy(0), 0);
        FootQuarrel alone = Check.withStreet("house a wide 1; person p in a hears 9 voice 9;");
        CHECK.fine(alone, "heardBy(0) alone", alone.heardBy(0), 0);
    }

    private static void shoutsByPairs() {
        FootQuarrel q = two("", "hears 9", "hears 9");
        for (int[] pair : NO_PAIRS_OF_TWO) {
            CHECK.refused(q, "shoutsBy(" + pair[0] + ", " + pair[1] + ")", q.shoutsBy(pair[0], pair[1]), 1);
        }
        q.peace(0, true);
        CHECK.refused(q, "shoutsBy(0, 1) at PEACE", q.shoutsBy(0, 1), 7);
        q.peace(0, false);
        q.move(0, 1);
        CHECK.refused(q, "shoutsBy(0, 1) in one HOUSE", q.shoutsBy(0, 1), 7);
        FootQuarrel far = Check.withStreet("house a wide 1; house b wide 1; house c wide 1; person p in a; person r in c;");
        CHECK.refused(far, "shoutsBy(0, 1) too far", far.shoutsBy(0, 1), 7);
    }

    private static void shoutsByNoneToSix() {
        FootQuarrel q = two("", "temper 30 hears 9", "temper 5 hears 9 voice 9");
        CHECK.fine(q, "none: he is as ANGRY as his TEMPER", q.shoutsBy(0, 1), 0);
        q.change(1, 1, 4);
        CHECK.fine(q, "one: he is ANGRIER by 1", q.shoutsBy(0, 1), 1);
        q.change(0, 1, 9);
        CHECK.fine(q, "one: the other one is as ANGRY as his TEMPER", q.shoutsBy(0, 1), 1);
        q.change(0, 1, 8);
        CHECK.fine(q, "six: nobody bears any", q.shoutsBy(0, 1), 6);
        q.change(1, 1, 9);
        CHECK.fine(q, "none by 5", q.shoutsBy(0, 1), 0);
        q.say(0, 1);
        CHECK.fine(q, "two: he bears the second one", q.shoutsBy(0, 1), 2);
        q.soothe(1);
        q.change(0, 1, 9);
        q.say(1, 0);
        q.change(1, 1, 4);
        CHECK.fine(q, "three", q.shoutsBy(0, 1), 3);
    }

    private static void gainByPairs() {
        FootQuarrel q = two("", "hears 9", "hears 9");
        for (int[] pair : NO_PAIRS_OF_TWO) {
            CHECK.refused(q, "gainBy(" + pair[0] + ", " + pair[1] + ")", q.gainBy(pair[0], pair[1]), 1);
        }
        q.peace(0, true);
        CHECK.refused(q, "gainBy(0, 1) at PEACE", q.gainBy(0, 1), 7);
        q.peace(0, false);
        q.move(0, 1);
        CHECK.refused(q, "gainBy(0, 1) in one HOUSE", q.gainBy(0, 1), 7);
    }

    /** gainBy: "(below 0: less)", no more than there is. */
    private static void gainByEdges() {
        for (int width = 0; width <= 10; width++) {
            FootQuarrel q = Check.withStreet("foot 9; house a wide 50; house b wide " + width
                    + "; person p in a temper 30 hears 0; person r in b temper 0 hears 9;");
            CHECK.fine(q, "gainBy(0, 1) of " + width, q.gainBy(0, 1), Math.min(9, width));
        }
        FootQuarrel none = two("foot 9;", "temper 30", "temper 30");
        CHECK.fine(none, "gainBy(0, 1) without a SHOUT", none.gainBy(0, 1), 0);
        // b loses its 1 foot, gets 2, loses 2, gets 2, loses 2, gets 2.
        FootQuarrel less = Check.withStreet("foot 2; house a wide 50; house b wide 1; person p in a temper 0 hears 9; person r in b temper 0 hears 9;");
        CHECK.fine(less, "gainBy(0, 1) of -1", less.gainBy(0, 1), -1);
        CHECK.due("STATUS tells -1 from NONE", less.status(), 0);
    }

    /** bestTo: "WIDER the most, above 0" (6: none). */
    private static void bestToAboveNone() {
        FootQuarrel q = two("foot 1;", "temper 30 hears 0", "temper 5 hears 9");
        CHECK.refused(q, "bestTo(0): nobody would SHOUT", q.bestTo(0), 6);
        q.change(1, 1, 4);
        CHECK.fine(q, "bestTo(0): 1 foot", q.bestTo(0), 1);
        q.change(0, 2, 9);
        q.change(0, 1, 8);
        CHECK.refused(q, "bestTo(0): 0 feet all in all", q.bestTo(0), 6);
        FootQuarrel flat = Check.withStreet("house a wide 9; house b wide 0; person p in a temper 30 hears 0; person r in b temper 0 hears 9;");
        CHECK.refused(flat, "bestTo(0): 0 feet to win", flat.bestTo(0), 6);
        FootQuarrel less = Check.withStreet("foot 2; house a wide 50; house b wide 1; person p in a temper 0 hears 9; person r in b temper 0 hears 9;");
        CHECK.refused(less, "bestTo(0): 1 foot less", less.bestTo(0), 6);
        FootQuarrel alone = Check.withStreet("house a wide 9; person p in a;");
        CHECK.refused(alone, "bestTo(0) alone", alone.bestTo(0), 6);
        for (int none : NOBODY_OF_TWO) {
            CHECK.refused(q, "bestTo(" + none + ")", q.bestTo(none), 1);
        }
    }

    /** "of several the first". */
    private static void bestToFirst() {
        FootQuarrel q = Check.withStreet("foot 5; house a wide 3; house b wide 9; house c wide 3; house d wide 9; person s in c temper 0 hears 9;"
                + "person p in b temper 30 hears 0; person r in a temper 0 hears 9; person t in d temper 0 hears 9;");
        CHECK.fine(q, "bestTo(1): two of 3 feet", q.bestTo(1), 0);
        FootQuarrel more = Check.withStreet("foot 5; house a wide 3; house b wide 9; house c wide 4; person r in a temper 0 hears 9;"
                + "person p in b temper 30 hears 0; person s in c temper 0 hears 9; person t in c temper 0 hears 9;");
        CHECK.fine(more, "bestTo(1): 4 feet ahead of 3", more.bestTo(1), 2);
        more.rule(3);
        CHECK.fine(more, "bestTo(1): three of 3 feet", more.bestTo(1), 0);
    }

    private static void bestToOfEight() {
        FootQuarrel q = oneAndSeven("temper 30 hears 0", "temper 30 hears 9");
        CHECK.refused(q, "bestTo(0)", q.bestTo(0), 6);
        q.change(7, 1, 4);
        CHECK.fine(q, "bestTo(0), the last of eight", q.bestTo(0), 7);
        q.change(7, 1, 30);
        q.change(0, 1, 0);
        q.change(0, 2, 9);
        CHECK.fine(q, "bestTo(7), the first of eight", q.bestTo(7), 0);
    }

    /** dangers: "NEIGHBOURS by whose SAY a PERSON would SHOUT now". */
    private static void dangersFromTemper() {
        for (int temper = 0; temper <= 9; temper++) {
            FootQuarrel q = Check.withStreet("house a wide 1; house b wide 1; house c wide 1; person p in b temper " + temper + " hears 4;"
                    + "person r in a voice 5; person s in c voice 6; person t in a voice 7; person u in b voice 9; person v in c voice 9;");
            int want = (temper < 6 ? 4 : 0) | (temper < 7 ? 8 : 0) | (temper < 9 ? 32 : 0);
            CHECK.fine(q, "dangers(0) of TEMPER " + temper, q.dangers(0), want);
            q.peace(1, true);
            CHECK.fine(q, "dangers(0), c at PEACE", q.dangers(0), want & 8);
        }
        FootQuarrel q = two("", "", "");
        CHECK.fine(q, "dangers(0), none", q.dangers(0), 0);
        for (int none : NOBODY_OF_TWO) {
            CHECK.refused(q, "dangers(" + none + ")", q.dangers(none), 1);
        }
    }

    private static void dangersOfEight() {
        FootQuarrel q = oneAndSeven("temper 0 hears 9", "temper 0 hears 9");
        CHECK.fine(q, "dangers(0)", q.dangers(0), 254);
        CHECK.fine(q, "dangers(7)", q.dangers(7), 1);
    }

    /** quiet: "1 if no SAY across a WALL would lead to a SHOUT now". */
    private static void quietEdges() {
        FootQuarrel q = Check.withStreet("house a wide 1; house b wide 1; house c wide 1; person p in a temper 5; person r in b temper 5; person s in c temper 4;");
        CHECK.fine(q, "quiet(0): as ANGRY as the TEMPER", q.quiet(0), 1);
        CHECK.fine(q, "quiet(1): ANGRIER by 1", q.quiet(1), 0);
        q.change(0, 3, 6);
        CHECK.fine(q, "quiet(0): by 6 of 5, to the right", q.quiet(0), 0);
        q.change(0, 3, 5);
        q.change(1, 3, 6);
        CHECK.fine(q, "quiet(0): by 6 of 5, to the left", q.quiet(0), 0);
        q.peace(0, true);
        CHECK.fine(q, "quiet(0) at PEACE", q.quiet(0), 1);
        CHECK.fine(q, "quiet(1) all the same", q.quiet(1), 0);
        for (int wall : new int[] {-1, 2, Integer.MAX_VALUE, Integer.MIN_VALUE}) {
            CHECK.refused(q, "quiet(" + wall + ")", q.quiet(wall), 1);
        }
    }

    private static void quietOfNobody() {
        FootQuarrel q = Check.withStreet("house a wide 1; house b wide 1; house c wide 1; person p in a temper 0 hears 9; person r in a temper 0 hears 9; person s in c temper 0 hears 9;");
        CHECK.fine(q, "quiet(0), nobody behind it", q.quiet(0), 1);
        CHECK.fine(q, "quiet(1), nobody ahead of it", q.quiet(1), 1);
        FootQuarrel one = Check.withStreet("house a wide 1;");
        CHECK.refused(one, "quiet(0) of one HOUSE", one.quiet(0), 1);
        FootQuarrel eight = oneAndSeven("temper 30 hears 9", "temper 30 hears 9");
        CHECK.fine(eight, "quiet(0) of eight", eight.quiet(0), 1);
        eight.change(7, 1, 0);
        CHECK.fine(eight, "quiet(0), the last of eight would SHOUT", eight.quiet(0), 0);
    }

    private static void baitPairs() {
        FootQuarrel q = two("", "hears 9", "hears 9");
        for (int[] pair : NO_PAIRS_OF_TWO) {
            CHECK.refused(q, "bait(" + pair[0] + ", " + pair[1] + ")", q.bait(pair[0], pair[1]), 1);
        }
        q.peace(0, true);
        CHECK.refused(q, "bait(0, 1) at PEACE", q.bait(0, 1), 7);
        q.peace(0, false);
        q.move(1, 0);
        CHECK.refused(q, "bait(0, 1) in one HOUSE", q.bait(0, 1), 7);
    }

    /** "how often (1 to 99) he must say something this DAY, till the other one SHOUTS". */
    private static void baitCounts() {
        FootQuarrel q = two("", "hears 0", "hears 9");
        for (int voice = 1; voice <= 9; voice += 2) {
            q.change(0, 3, voice);
            for (int temper = 0; temper <= 30; temper++) {
                q.change(1, 1, temper);
                CHECK.fine(q, "bait by " + voice + " of " + temper, q.bait(0, 1), temper / voice + 1);
            }
        }
        FootQuarrel angry = two("", "hears 0 voice 7", "temper 21 hears 9");
        CHECK.fine(angry, "bait of who isn't ANGRY", angry.bait(0, 1), 4);
        angry.say(0, 1);
        CHECK.fine(angry, "bait of who is ANGRY by 7", angry.bait(0, 1), 3);
        angry.say(0, 1);
        angry.say(0, 1);
        CHECK.fine(angry, "bait of who is as ANGRY as his TEMPER", angry.bait(0, 1), 1);
        angry.change(1, 1, 0);
        CHECK.fine(angry, "bait of who is ANGRIER than it", angry.bait(0, 1), 1);
        FootQuarrel most = two("", "voice 3", "temper 30 hears 9");
        most.rain(true);
        CHECK.fine(most, "bait by 1 in rain, the most there is", most.bait(0, 1), 31);
    }

    /** "6: never in 99". */
    private static void baitNever() {
        FootQuarrel q = two("", "voice 5", "temper 0 hears 5");
        CHECK.fine(q, "bait by 5 and 5", q.bait(0, 1), 1);
        q.change(1, 2, 4);
        CHECK.refused(q, "bait by 5 and 4, not heard", q.bait(0, 1), 6);
        q.change(1, 2, 9);
        q.change(0, 3, 2);
        q.rain(true);
        CHECK.refused(q, "bait by 0 in rain", q.bait(0, 1), 6);
        q.change(0, 3, 3);
        CHECK.fine(q, "bait by 1 in rain", q.bait(0, 1), 1);
    }

    private static void leastVoicePairs() {
        FootQuarrel q = two("", "hears 9", "temper 0 hears 9");
        for (int[] pair : NO_PAIRS_OF_TWO) {
            CHECK.refused(q, "leastVoice(" + pair[0] + ", " + pair[1] + ")", q.leastVoice(pair[0], pair[1]), 1);
        }
        q.peace(0, true);
        CHECK.refused(q, "leastVoice(0, 1) at PEACE", q.leastVoice(0, 1), 7);
        q.peace(0, false);
        q.move(1, 0);
        CHECK.refused(q, "leastVoice(0, 1) in one HOUSE", q.leastVoice(0, 1), 7);
    }

    /** "The least VOICE (1 to 9) with which the first would make the second SHOUT at once (.. 6: with none)". */
    private static void leastVoiceEdges() {
        FootQuarrel q = two("", "voice 1", "");
        for (int temper = 0; temper <= 10; temper++) {
            q.change(1, 1, temper);
            for (int ears = 0; ears <= 9; ears += 3) {
                q.change(1, 2, ears);
                int least = Math.max(1, Math.max(10 - ears, temper + 1));
                if (least <= 9) {
                    CHECK.fine(q, "leastVoice of " + temper + " and " + ears, q.leastVoice(0, 1), least);
                } else {
                    CHECK.refused(q, "leastVoice of " + temper + " and " + ears, q.leastVoice(0, 1), 6);
                }
            }
        }
        FootQuarrel angry = two("", "voice 9", "temper 10 hears 9");
        angry.say(0, 1);
        CHECK.fine(angry, "leastVoice of 10, ANGRY by 9", angry.leastVoice(0, 1), 2);
        angry.change(1, 1, 9);
        CHECK.fine(angry, "leastVoice of 9, ANGRY by 9", angry.leastVoice(0, 1), 1);
        angry.change(1, 1, 19);
        CHECK.refused(angry, "leastVoice of 19, ANGRY by 9", angry.leastVoice(0, 1), 6);
    }

    private static void leastVoiceInRain() {
        FootQuarrel q = two("", "", "temper 0 hears 9");
        q.rain(true);
        CHECK.fine(q, "leastVoice in rain", q.leastVoice(0, 1), 3);
        q.change(1, 1, 6);
        CHECK.fine(q, "leastVoice of 6 in rain", q.leastVoice(0, 1), 9);
        q.change(1, 1, 7);
        CHECK.refused(q, "leastVoice of 7 in rain", q.leastVoice(0, 1), 6);
        q.change(1, 1, 0);
        q.change(1, 2, 3);
        CHECK.fine(q, "leastVoice of HEARS 3 in rain", q.leastVoice(0, 1), 9);
        q.change(1, 2, 2);
        CHECK.refused(q, "leastVoice of HEARS 2 in rain", q.leastVoice(0, 1), 6);
    }

    /** "ANGER of a PERSON in so many NIGHTS (0 to 99)". */
    private static void angerInNights() {
        for (int calm = 0; calm <= 9; calm++) {
            FootQuarrel q = two("calm " + calm + ";", "voice 9", "temper 30 hears 9");
            q.say(0, 1);
            for (int nights : new int[] {0, 1, 2, 3, 4, 5, 8, 9, 10, 98, 99}) {
                CHECK.fine(q, "angerIn(1, " + nights + ") by " + calm, q.angerIn(1, nights), Math.max(0, 9 - nights * calm));
            }
            CHECK.due("ANGER now", q.person(1, 5), 9);
            CHECK.due("the DAY", q.told(6), 0);
        }
    }

    private static void angerInNumbers() {
        FootQuarrel q = two("", "", "hears 9");
        q.say(0, 1);
        for (int nights : new int[] {-1, 100, Integer.MAX_VALUE, Integer.MIN_VALUE}) {
            CHECK.refused(q, "angerIn(1, " + nights + ")", q.angerIn(1, nights), 1);
        }
        for (int none : NOBODY_OF_TWO) {
            CHECK.refused(q, "angerIn(" + none + ", 1)", q.angerIn(none, 1), 1);
        }
        CHECK.fine(q, "angerIn(0, 0) of who isn't ANGRY", q.angerIn(0, 0), 0);
    }

    /** "In how many NIGHTS (0 to 99) nobody is angry". */
    private static void calmInNights() {
        CHECK.due("calmIn() of nobody", new FootQuarrel().calmIn(), 0);
        for (int calm = 1; calm <= 9; calm++) {
            FootQuarrel q = two("calm " + calm + ";", "temper 30 hears 9 voice 9", "temper 30 hears 9 voice 4");
            CHECK.fine(q, "calmIn(), nobody is ANGRY", q.calmIn(), 0);
            q.say(1, 0);
            CHECK.fine(q, "calmIn() of 4 by " + calm, q.calmIn(), (4 + calm - 1) / calm);
            q.say(0, 1);
            CHECK.fine(q, "calmIn() of 9 by " + calm, q.calmIn(), (9 + calm - 1) / calm);
        }
        FootQuarrel eight = oneAndSeven("voice 9", "temper 30");
        CHECK.fine(eight, "calmIn() of eight who aren't ANGRY", eight.calmIn(), 0);
        eight.say(0, 7);
        CHECK.fine(eight, "calmIn() of the last of eight", eight.calmIn(), 5);
        Check.street(eight, "house a wide 1; person p in a;");
        CHECK.fine(eight, "calmIn() of one in another STREET", eight.calmIn(), 0);
        FootQuarrel most = two("calm 1;", "voice 6", "temper 30 hears 9");
        for (int i = 0; i < 5; i++) {
            most.say(0, 1);
        }
        CHECK.fine(most, "calmIn() of 30 by 1, the most there is", most.calmIn(), 30);
    }

    /** "(6: not in these)". */
    private static void calmInNever() {
        FootQuarrel q = two("calm 0;", "voice 1", "temper 30 hears 9");
        CHECK.fine(q, "calmIn() without CALM, nobody is ANGRY", q.calmIn(), 0);
        q.say(0, 1);
        CHECK.refused(q, "calmIn() without CALM", q.calmIn(), 6);
        q.soothe(1);
        CHECK.fine(q, "calmIn() without CALM, soothed", q.calmIn(), 0);
    }

    /** "if nothing is said": no DAY is asked. */
    private static void calmInAtLastDay() {
        FootQuarrel q = two("calm 1;", "voice 9", "temper 30 hears 9");
        for (int i = 0; i < 101; i++) {
            q.night(99);
        }
        q.say(0, 1);
        CHECK.due("the last DAY", q.told(6), 9999);
        CHECK.fine(q, "calmIn()", q.calmIn(), 9);
        CHECK.fine(q, "angerIn(1, 8)", q.angerIn(1, 8), 1);
    }

    private static void hireNumbers() {
        FootQuarrel q = two("", "temper 0 hears 9 pay 7", "temper 0 hears 9 pay 99");
        CHECK.fine(q, "hire(0), the most PAY", q.hire(0), 99);
        CHECK.fine(q, "hireSet(0)", q.hireSet(0), 2);
        CHECK.fine(q, "hire(1)", q.hire(1), 7);
        CHECK.fine(q, "hireSet(1)", q.hireSet(1), 1);
        for (int none : NOBODY_OF_TWO) {
            CHECK.refused(q, "hire(" + none + ")", q.hire(none), 1);
            CHECK.refused(q, "hireSet(" + none + ")", q.hireSet(none), 1);
        }
    }

    private static void never(FootQuarrel q, String why) {
        CHECK.refused(q, "hire(0), " + why, q.hire(0), 6);
        CHECK.refused(q, "hireSet(0), " + why, q.hireSet(0), 6);
    }

    /** "6: never". */
    private static void hireNever() {
        never(Check.withStreet("house a wide 1; person p in a temper 0 hears 9;"), "nobody else");
        never(Check.withStreet("house a wide 1; person p in a temper 0 hears 9; person r in a voice 9;"), "nobody in another HOUSE");
        never(two("", "temper 0 hears 4", "voice 5"), "not heard");
        never(two("", "temper 9 hears 9", "voice 9"), "as ANGRY as his TEMPER");
        FootQuarrel peace = two("", "temper 0 hears 9", "voice 9");
        peace.peace(0, true);
        never(peace, "at PEACE");
        never(Check.withStreet("house a wide 1; house b wide 1; house c wide 1; person p in a temper 0 hears 9; person r in c voice 9;"), "too far");
        never(oneAndSeven("temper 30 hears 9", "voice 4"), "seven of 4 are 28");
    }

    /** "so that he SHOUTS by one of these": together they make him ANGRIER than his TEMPER. */
    private static void hireFromTemper() {
        for (int temper = 0; temper <= 30; temper++) {
            FootQuarrel q = Check.withStreet("house a wide 1; house b wide 1; person p in a temper " + temper + " hears 9;"
                    + "person r in b voice 5 pay 1; person s in b voice 5 pay 1; person t in b voice 5 pay 1; person u in b voice 5 pay 1;");
            int many = temper / 5 + 1;
            if (many <= 4) {
                CHECK.fine(q, "hire(0) of TEMPER " + temper, q.hire(0), many);
                CHECK.fine(q, "hireSet(0) of TEMPER " + temper, q.hireSet(0), (1 << many + 1) - 2);
            } else {
                never(q, "TEMPER " + temper);
            }
        }
    }

    /** "the set whose PAY together is the least". */
    private static void hireByPay() {
        for (int pay = 0; pay <= 5; pay++) {
            FootQuarrel q = Check.withStreet("house a wide 1; house b wide 1; person p in a temper 8 hears 9;"
                    + "person r in b voice 9 pay " + pay + "; person s in b voice 5 pay 1; person t in b voice 5 pay 2;");
            // Either r alone, or s and t for 3.
            CHECK.fine(q, "hire(0), r for " + pay, q.hire(0), Math.min(pay, 3));
            CHECK.fine(q, "hireSet(0), r for " + pay, q.hireSet(0), pay <= 3 ? 2 : 12);
        }
    }

    /** "of several the fewest": who works for nothing is not hired for nothing. */
    private static void hireFewest() {
        FootQuarrel q = Check.withStreet("house a wide 1; house b wide 1; person p in a temper 8 hears 9;"
                + "person r in b voice 5; person s in b voice 5; person t in b voice 9;");
        CHECK.fine(q, "hire(0) for nothing", q.hire(0), 0);
        CHECK.fine(q, "hireSet(0), one ahead of two", q.hireSet(0), 8);
        q.change(3, 4, 1);
        CHECK.fine(q, "hireSet(0), two for nothing ahead of one for 1", q.hireSet(0), 6);
    }

    /** "then the least as a number (1 for PERSON 0 ..)". */
    private static void hireLeastNumber() {
        FootQuarrel q = Check.withStreet("house a wide 1; house b wide 1; house c wide 1; person r in a voice 5 pay 2; person s in c voice 5 pay 1;"
                + "person p in b temper 8 hears 9; person t in a voice 5 pay 1; person u in c voice 5 pay 2;");
        // For 2: s and t alone. For 3 there would be more.
        CHECK.fine(q, "hireSet(2), the least PAY", q.hireSet(2), 10);
        q.change(1, 4, 2);
        q.change(3, 4, 2);
        CHECK.fine(q, "hireSet(2), the least number of six", q.hireSet(2), 3);
        CHECK.fine(q, "hire(2)", q.hire(2), 4);
    }

    private static void hireOfEight() {
        FootQuarrel all = oneAndSeven("temper 30 hears 9", "hears 9 voice 5 pay 99");
        CHECK.fine(all, "hire(0), seven of 99", all.hire(0), 693);
        CHECK.fine(all, "hireSet(0), all seven", all.hireSet(0), 254);
        all.change(0, 1, 29);
        CHECK.fine(all, "hireSet(0), six of seven", all.hireSet(0), 126);
        all.change(1, 4, 98);
        all.change(7, 4, 98);
        CHECK.fine(all, "hire(0), two for less", all.hire(0), 592);
        CHECK.fine(all, "hireSet(0), the first and the last of seven", all.hireSet(0), 190);
        all.change(7, 1, 0);
        CHECK.fine(all, "hireSet(7), the first of eight", all.hireSet(7), 1);
    }

    /** "From now on, as rainy as it is." */
    private static void hireInRain() {
        FootQuarrel q = Check.withStreet("house a wide 1; house b wide 1; person p in a temper 8 hears 5;"
                + "person r in b voice 9 pay 1; person s in b voice 7 pay 1; person t in b voice 6;");
        CHECK.fine(q, "hireSet(0), dry", q.hireSet(0), 2);
        q.rain(true);
        // r is 7 LOUD, s 5; t, 4 LOUD, isn't heard.
        CHECK.fine(q, "hireSet(0) in rain", q.hireSet(0), 6);
        CHECK.fine(q, "hire(0) in rain", q.hire(0), 2);
        q.change(0, 1, 12);
        CHECK.refused(q, "hire(0) in rain: 7 and 5 are as much as 12", q.hire(0), 6);
        q.change(3, 3, 7);
        CHECK.fine(q, "hireSet(0) in rain: 7, 5 and 5", q.hireSet(0), 14);
    }

    /** "(what he SHOUTS, and that others SHOUT, does not matter)"; "once each, one behind the other, by numbers". */
    private static void hireWhateverOthersShout() {
        FootQuarrel q = Check.withStreet("foot 9; house a wide 1; house b wide 1; person p in a temper 0 hears 9;"
                + "person r in b temper 0 hears 9 voice 9 pay 2; person s in b temper 0 hears 9 voice 1 pay 1;");
        CHECK.due("SHOUTS by r", q.shoutsBy(1, 0), 6);
        CHECK.fine(q, "hireSet(0)", q.hireSet(0), 4);
        q.change(0, 1, 9);
        CHECK.fine(q, "hireSet(0): 9 and 1", q.hireSet(0), 6);
        q.change(0, 1, 10);
        CHECK.refused(q, "hire(0): nobody says anything twice", q.hire(0), 6);
    }

    /** What would be leaves all as it is. */
    private static void allStays() {
        FootQuarrel q = Scene.rich();
        q.peace(1, false);
        for (int one = 0; one < 3; one++) {
            q.loud(one);
            q.heardBy(one);
            q.bestTo(one);
            q.dangers(one);
            q.angerIn(one, 9);
            q.hire(one);
            q.hireSet(one);
            for (int other = 0; other < 3; other++) {
                q.near(one, other);
                q.hears(one, other);
                q.shoutsBy(one, other);
                q.gainBy(one, other);
                q.bait(one, other);
                q.leastVoice(one, other);
                q.game(one, other, 2);
                q.moveOf(one, other, 2);
            }
        }
        q.quiet(0);
        q.quiet(1);
        q.calmIn();
        FootQuarrel without = Scene.rich();
        without.peace(1, false);
        CHECK.due("that what would be changed nothing", Scene.portrait(q).equals(Scene.portrait(without)), true);
    }
}
