import java.math.BigInteger;

/** The boundary cases of the PLACES of a WALL and of the odds of rain, promises 52 to 56, each sentence by itself. */
public final class EdgePlacesTest {
    private static final Check CHECK = new Check();
    private static final int[] NO_TRAYS = {-1, 4, Integer.MAX_VALUE, Integer.MIN_VALUE};

    public static void main(String[] args) {
        trays();
        leastAndMostPlaces();
        missing();
        tooFew();
        firstNumbersAlone();
        belowZero();
        placeZero();
        sorts();
        onePlace();
        threeShoutsAtMost();
        wholeFeet();
        footAsItIs();
        farApart();
        twelvePlaces();
        fewestWithoutWay();
        blameOnFirstDayWithOne();
        statusOrder();
        copyTrays();
        copyTooFew();
        copyExact();
        copyNoWalls();
        copyCuts();
        wetNumbers();
        wetOfNoDays();
        wetMoreThanDays();
        wetByOdds();
        wetLowestTerms();
        CHECK.finish();
    }

    private static FootQuarrel places(int sort, long... numbers) {
        FootQuarrel q = new FootQuarrel();
        q.tray(0, sort, numbers.length);
        for (int i = 0; i < numbers.length; i++) {
            q.write(0, i, numbers[i]);
        }
        return q;
    }

    private static void refusedAll(FootQuarrel q, String why, int tray, int n, int status) {
        CHECK.refused(q, "ways, " + why, q.ways(tray, n), status);
        CHECK.refused(q, "fewest, " + why, q.fewest(tray, n), status);
        CHECK.refused(q, "blame, " + why, q.blame(tray, n), status);
    }

    private static void told(FootQuarrel q, String what, int n, long ways, int fewest, long blame) {
        CHECK.fine(q, "ways, " + what, q.ways(0, n), ways);
        CHECK.fine(q, "blame, " + what, q.blame(0, n), blame);
        if (ways == 0) {
            CHECK.refused(q, "fewest, " + what, q.fewest(0, n), 6);
        } else {
            CHECK.fine(q, "fewest, " + what, q.fewest(0, n), fewest);
        }
    }

    private static void trays() {
        for (int tray = 0; tray < 4; tray++) {
            FootQuarrel q = new FootQuarrel();
            q.tray(tray, 0, 2);
            CHECK.fine(q, "ways of TRAY " + tray, q.ways(tray, 2), 3);
            CHECK.fine(q, "fewest of TRAY " + tray, q.fewest(tray, 2), 0);
            CHECK.fine(q, "blame of TRAY " + tray, q.blame(tray, 2), 1);
        }
        for (int tray : NO_TRAYS) {
            refusedAll(places(0, 1), "TRAY " + tray, tray, 1, 1);
        }
    }

    /** "the first n (1 to 12) numbers". */
    private static void leastAndMostPlaces() {
        FootQuarrel q = new FootQuarrel();
        q.tray(0, 3, 60);
        for (int n : new int[] {-1, 0, 13, 60, Integer.MAX_VALUE, Integer.MIN_VALUE}) {
            refusedAll(q, n + " PLACES", 0, n, 1);
        }
        long ways = 1;
        for (int n = 1; n <= 12; n++) {
            CHECK.fine(q, "ways of " + n, q.ways(0, n), ways);
            CHECK.fine(q, "fewest of " + n, q.fewest(0, n), 0);
            // All but the one without a SHOUT begin as often on the left as on the right.
            CHECK.fine(q, "blame of " + n, q.blame(0, n), (ways - 1) / 2);
            ways *= 3;
        }
    }

    /** "2 the TRAY is MISSING". */
    private static void missing() {
        FootQuarrel q = new FootQuarrel();
        for (int tray = 0; tray < 4; tray++) {
            refusedAll(q, "MISSING " + tray, tray, 1, 2);
        }
        q.tray(1, 0, 1);
        CHECK.fine(q, "ways of TRAY 1", q.ways(1, 1), 1);
        refusedAll(q, "MISSING still", 2, 1, 2);
    }

    /** "3 .. too few numbers". */
    private static void tooFew() {
        FootQuarrel none = places(0);
        refusedAll(none, "1 of 0", 0, 1, 3);
        for (int has = 1; has <= 12; has++) {
            FootQuarrel q = places(1, new long[has]);
            CHECK.due("ways of all " + has + " is told", q.ways(0, has) > 0, true);
            if (has < 12) {
                refusedAll(q, (has + 1) + " of " + has, 0, has + 1, 3);
            }
        }
    }

    /** "by the first n .. numbers of a TRAY": what stands behind them is not asked. */
    private static void firstNumbersAlone() {
        FootQuarrel q = places(0, 5, 6, -1, 99);
        told(q, "the first 2 of 4", 2, 4, 1, 1);
        told(q, "the first 1 of 4", 1, 1, 0, 0);
        refusedAll(q, "the first 3 of 4", 0, 3, 5);
        refusedAll(q, "the first 4 of 4", 0, 4, 5);
    }

    /** "(.. 5: a number below 0)", in each place, in each sort. */
    private static void belowZero() {
        for (int sort = 0; sort < 4; sort++) {
            for (int at = 0; at < 3; at++) {
                long[] numbers = {1, 1, 1};
                numbers[at] = -1;
                refusedAll(places(sort, numbers), "-1 at " + at, 0, 3, 5);
                numbers[at] = Long.MIN_VALUE >> 56 - (8 << sort) + 8;
                refusedAll(places(sort, numbers), "the least at " + at, 0, 3, 5);
            }
        }
        refusedAll(places(0, 128), "128, cut to 8 bits", 0, 1, 5);
        told(places(1, 128), "128 of 16 bits", 1, 1, 0, 0);
    }

    /** 0 is a PLACE, the beginning of the row. */
    private static void placeZero() {
        told(places(0, 0), "0", 1, 1, 0, 0);
        told(places(0, 0, 0), "0, 0", 2, 3, 0, 1);
        told(places(0, 3, 0), "3, 0", 2, 1, 3, 1);
        told(places(0, 0, 3), "0, 3", 2, 1, 3, 0);
    }

    /** Each sort by its greatest number. */
    private static void sorts() {
        long[] most = {Byte.MAX_VALUE, Short.MAX_VALUE, Integer.MAX_VALUE, Long.MAX_VALUE};
        for (int sort = 0; sort < 4; sort++) {
            told(places(sort, most[sort], most[sort] - 1, most[sort]), "the most of sort " + sort, 3, 16, 2, 12);
            told(places(sort, most[sort], 0), "from the most of sort " + sort + " to 0", 2, 0, 0, 0);
        }
    }

    /** One PLACE alone: no DAY is between. */
    private static void onePlace() {
        told(places(3, Long.MAX_VALUE), "one PLACE", 1, 1, 0, 0);
        told(places(3, 0), "one PLACE", 1, 1, 0, 0);
    }

    /** "on each DAY there were at most 3 SHOUTS at it, each by which it went FOOT to one side". */
    private static void threeShoutsAtMost() {
        int[][] want = {{-4, 0, 0, 0}, {-3, 1, 3, 1}, {-2, 1, 2, 1}, {-1, 4, 1, 3}, {0, 3, 0, 1}, {1, 4, 1, 1}, {2, 1, 2, 0},
            {3, 1, 3, 0}, {4, 0, 0, 0}, {5, 0, 0, 0}, {-5, 0, 0, 0}};
        for (int foot = 1; foot <= 9; foot++) {
            for (int[] row : want) {
                FootQuarrel q = places(0, 50, 50 + row[0] * foot);
                q.rule(foot);
                told(q, row[0] + " times FOOT " + foot, 2, row[1], row[2], row[3]);
            }
        }
    }

    /** A WALL goes by whole FEET: what is no such many feet can't be. */
    private static void wholeFeet() {
        for (int foot = 1; foot <= 9; foot++) {
            for (int feet = -30; feet <= 30; feet++) {
                FootQuarrel q = places(1, 100, 100 + feet);
                q.rule(foot);
                boolean can = feet % foot == 0 && Math.abs(feet / foot) <= 3;
                CHECK.due("ways of " + feet + " feet by " + foot + " are there", q.ways(0, 2) > 0, can);
            }
        }
    }

    /** "by FOOT as it is". */
    private static void footAsItIs() {
        FootQuarrel q = Check.withStreet("foot 4;");
        q.tray(0, 0, 2);
        q.write(0, 1, 4);
        told(q, "4 feet by FOOT 4", 2, 4, 1, 1);
        q.rule(2);
        told(q, "4 feet by FOOT 2", 2, 1, 2, 0);
        q.rule(1);
        told(q, "4 feet by FOOT 1", 2, 0, 0, 0);
        q.rule(3);
        told(q, "4 feet by FOOT 3", 2, 0, 0, 0);
    }

    /** PLACES so far from each other that a product or a difference of 32 bits would wrap. */
    private static void farApart() {
        told(places(3, 0, 4294967296L), "2 to the 32nd apart", 2, 0, 0, 0);
        told(places(3, 4294967297L, 0), "that and 1 apart", 2, 0, 0, 0);
        told(places(3, 0, Long.MAX_VALUE), "as far as can be", 2, 0, 0, 0);
        told(places(3, Long.MAX_VALUE, 0), "as far back as can be", 2, 0, 0, 0);
    }

    private static void twelvePlaces() {
        FootQuarrel q = places(0, 5, 6, 7, 8, 9, 10, 11, 12, 13, 14, 15, 16);
        told(q, "11 DAYS of 4", 12, 4194304, 11, 1048576);
        FootQuarrel back = places(0, 16, 15, 14, 13, 12, 11, 10, 9, 8, 7, 6, 5);
        told(back, "11 DAYS of 4 back", 12, 4194304, 11, 3145728);
        FootQuarrel most = places(0, 0, 3, 6, 9, 12, 15, 18, 21, 24, 27, 30, 33);
        told(most, "11 DAYS of 3 SHOUTS", 12, 1, 33, 0);
        FootQuarrel last = places(0, 0, 0, 0, 0, 0, 0, 0, 0, 0, 0, 0, 4);
        told(last, "the last DAY can't be", 12, 0, 0, 0);
    }

    /** fewest: "6: there is no way". */
    private static void fewestWithoutWay() {
        FootQuarrel q = places(0, 5, 9, 9);
        CHECK.refused(q, "fewest, the first DAY can't be", q.fewest(0, 3), 6);
        CHECK.fine(q, "ways, the first DAY can't be", q.ways(0, 3), 0);
        CHECK.fine(q, "blame, the first DAY can't be", q.blame(0, 3), 0);
        FootQuarrel last = places(0, 5, 5, 9);
        CHECK.refused(last, "fewest, the last DAY can't be", last.fewest(0, 3), 6);
        CHECK.fine(last, "fewest, without it", last.fewest(0, 2), 0);
    }

    /** "(on the first DAY on which there is one)". */
    private static void blameOnFirstDayWithOne() {
        // No SHOUT on the first DAYS: then as the last one begins. LR and RL on one of them: that one begins.
        told(places(0, 5, 5, 2), "none, then three to the left", 3, 3, 3, 2);
        told(places(0, 5, 5, 8), "none, then three to the right", 3, 3, 3, 1);
        told(places(0, 5, 2, 5), "three to the left, then three back", 3, 1, 6, 1);
        told(places(0, 5, 8, 5), "three to the right, then three back", 3, 1, 6, 0);
        told(places(0, 5, 5, 5, 2), "none twice, then three to the left", 4, 9, 3, 5);
        told(places(0, 5, 5, 5, 5), "none at all", 4, 27, 0, 13);
    }

    /** "STATUS of a call is the first of these that holds". */
    private static void statusOrder() {
        FootQuarrel q = places(0, -1, 9);
        refusedAll(q, "no TRAY, no n: 1", 4, 0, 1);
        refusedAll(q, "MISSING, no n: 1", 3, 0, 1);
        refusedAll(q, "MISSING, 13: 1", 3, 13, 1);
        refusedAll(q, "MISSING, 12: 2", 3, 12, 2);
        refusedAll(q, "too few, 13: 1", 0, 13, 1);
        refusedAll(q, "too few, one below 0: 3", 0, 3, 3);
        refusedAll(q, "one below 0, no way: 5", 0, 2, 5);
        q.write(0, 0, 9);
        q.ways(4, 0);
        CHECK.fine(q, "ways behind what was refused", q.ways(0, 2), 3);
        q.ways(4, 0);
        CHECK.fine(q, "blame behind what was refused", q.blame(0, 2), 1);
        q.ways(4, 0);
        CHECK.fine(q, "fewest behind what was refused", q.fewest(0, 2), 0);
    }

    private static FootQuarrel row(int walls) {
        StringBuilder text = new StringBuilder();
        for (int i = 0; i <= walls; i++) {
            text.append("house h").append((char) ('a' + i)).append(" wide 99;");
        }
        return Check.withStreet(text.toString());
    }

    /** copyWalls: "(1; 2; 3)". */
    private static void copyTrays() {
        FootQuarrel q = row(2);
        for (int tray : NO_TRAYS) {
            CHECK.refused(q, "copyWalls(" + tray + ")", q.copyWalls(tray), 1);
        }
        for (int tray = 0; tray < 4; tray++) {
            CHECK.refused(q, "copyWalls(" + tray + "), MISSING", q.copyWalls(tray), 2);
            q.tray(tray, 2, 2);
            CHECK.fine(q, "copyWalls(" + tray + ")", q.copyWalls(tray), 2);
            CHECK.due("the first", q.read(tray, 0), 99);
            CHECK.due("the last", q.read(tray, 1), 198);
        }
    }

    private static void copyTooFew() {
        for (int walls = 1; walls <= 5; walls++) {
            FootQuarrel q = row(walls);
            q.tray(0, 2, walls - 1);
            for (int i = 0; i < walls - 1; i++) {
                q.write(0, i, 7);
            }
            CHECK.refused(q, "copyWalls of " + walls + " to " + (walls - 1), q.copyWalls(0), 3);
            for (int i = 0; i < walls - 1; i++) {
                CHECK.due("place " + i + " stays", q.read(0, i), 7);
            }
        }
    }

    /** "WALLS' places come to a TRAY, one by one: how many": behind them it stays. */
    private static void copyExact() {
        for (int walls = 1; walls <= 5; walls++) {
            FootQuarrel q = row(walls);
            q.tray(0, 2, walls);
            CHECK.fine(q, "copyWalls to as many", q.copyWalls(0), walls);
            q.tray(1, 2, walls + 1);
            q.write(1, walls, 7);
            CHECK.fine(q, "copyWalls to one more", q.copyWalls(1), walls);
            for (int i = 0; i < walls; i++) {
                CHECK.due("place " + i, q.read(0, i), 99 * (i + 1));
                CHECK.due("place " + i + " of the longer row", q.read(1, i), 99 * (i + 1));
            }
            CHECK.due("behind them", q.read(1, walls), 7);
        }
        FootQuarrel moved = Check.withStreet("foot 3; house a wide 5; house b wide 5; person p in a temper 30 hears 0; person r in b temper 0 hears 9;");
        moved.say(0, 1);
        moved.tray(0, 0, 1);
        moved.copyWalls(0);
        CHECK.due("as it is, not as it was told", moved.read(0, 0), 8);
    }

    /** No WALLS: nothing comes, and that is no fault. */
    private static void copyNoWalls() {
        FootQuarrel none = new FootQuarrel();
        none.tray(0, 0, 0);
        CHECK.fine(none, "copyWalls of no HOUSES", none.copyWalls(0), 0);
        CHECK.refused(none, "copyWalls to a MISSING TRAY", none.copyWalls(1), 2);
        FootQuarrel one = row(0);
        one.tray(0, 0, 1);
        one.write(0, 0, 7);
        CHECK.fine(one, "copyWalls of one HOUSE", one.copyWalls(0), 0);
        CHECK.due("place 0 stays", one.read(0, 0), 7);
    }

    /** A number that comes to a TRAY of 8 bits is cut to them. */
    private static void copyCuts() {
        FootQuarrel q = row(5);
        q.tray(0, 0, 5);
        CHECK.fine(q, "copyWalls to 8 bits", q.copyWalls(0), 5);
        long[] want = {99, -58, 41, -116, -17};
        for (int i = 0; i < 5; i++) {
            CHECK.fine(q, "place " + i, q.read(0, i), want[i]);
        }
        q.tray(0, 1, 5);
        q.copyWalls(0);
        CHECK.fine(q, "16 bits hold the most", q.read(0, 4), 495);
    }

    /** wet: "k (0 to 12) of n (0 to 12) (1)". */
    private static void wetNumbers() {
        FootQuarrel q = new FootQuarrel();
        CHECK.fraction(q, "wet(12, 12)", q.wet(12, 12), 1, 16777216);
        for (int wrong : new int[] {-1, 13, Integer.MAX_VALUE, Integer.MIN_VALUE}) {
            CHECK.denied(q, "wet(" + wrong + ", 1)", q.wet(wrong, 1), 1);
            CHECK.denied(q, "wet(1, " + wrong + ")", q.wet(1, wrong), 1);
            CHECK.due("top() stays", q.top(), 1);
            CHECK.due("bottom() stays", q.bottom(), 16777216);
        }
        CHECK.fraction(q, "wet(0, 0)", q.wet(0, 0), 1, 1);
    }

    private static void wetOfNoDays() {
        for (int odds : new int[] {0, 1, 15, 16}) {
            FootQuarrel q = Check.withStreet("odds " + odds + ";");
            CHECK.fraction(q, "wet(0, 0)", q.wet(0, 0), 1, 1);
            for (int k = 1; k <= 12; k++) {
                CHECK.fraction(q, "wet(0, " + k + ")", q.wet(0, k), 0, 1);
            }
        }
    }

    /** "on k or more of n DAYS". */
    private static void wetMoreThanDays() {
        FootQuarrel q = Check.withStreet("odds 8;");
        for (int n = 1; n <= 12; n++) {
            CHECK.fraction(q, "wet(" + n + ", 0)", q.wet(n, 0), 1, 1);
            CHECK.fraction(q, "wet(" + n + ", 1)", q.wet(n, 1), (1 << n) - 1, 1 << n);
            CHECK.fraction(q, "wet(" + n + ", " + n + ")", q.wet(n, n), 1, 1 << n);
            if (n < 12) {
                CHECK.fraction(q, "wet(" + n + ", " + (n + 1) + ")", q.wet(n, n + 1), 0, 1);
            }
        }
    }

    /** "each by ODDS sixteenths": 0 never, 16 always. */
    private static void wetByOdds() {
        FootQuarrel never = Check.withStreet("odds 0;");
        FootQuarrel always = Check.withStreet("odds 16;");
        for (int k = 0; k <= 12; k++) {
            CHECK.fraction(never, "wet(12, " + k + ") never", never.wet(12, k), k == 0 ? 1 : 0, 1);
            CHECK.fraction(always, "wet(12, " + k + ") always", always.wet(12, k), 1, 1);
        }
        for (int odds = 1; odds <= 15; odds++) {
            FootQuarrel q = Check.withStreet("odds " + odds + ";");
            long common = BigInteger.valueOf(odds).gcd(BigInteger.valueOf(16)).longValue();
            CHECK.fraction(q, "wet(1, 1) by " + odds, q.wet(1, 1), odds / common, 16 / common);
            CHECK.fraction(q, "wet(1, 0) by " + odds, q.wet(1, 0), 1, 1);
        }
    }

    /** "without a common divisor, the bottom above 0": the greatest numbers there are. */
    private static void wetLowestTerms() {
        FootQuarrel q = Check.withStreet("odds 15;");
        BigInteger all = BigInteger.valueOf(16).pow(12);
        CHECK.fraction(q, "wet(12, 12) by 15", q.wet(12, 12), BigInteger.valueOf(15).pow(12).longValueExact(), all.longValueExact());
        CHECK.fraction(q, "wet(12, 1) by 15", q.wet(12, 1), all.subtract(BigInteger.ONE).longValueExact(), all.longValueExact());
        FootQuarrel even = Check.withStreet("odds 12;");
        CHECK.fraction(even, "wet(2, 2) by 12", even.wet(2, 2), 9, 16);
        CHECK.fraction(even, "wet(2, 1) by 12", even.wet(2, 1), 15, 16);
        // Of 4 DAYS 2 by a half: 6 of 16 exactly 2, 4 exactly 3, 1 all.
        FootQuarrel half = Check.withStreet("odds 8;");
        CHECK.fraction(half, "wet(4, 2) by 8", half.wet(4, 2), 11, 16);
    }
}
