import java.math.BigInteger;

/** Promises 52 to 56: PLACES of a WALL, the odds of rain. */
public final class PlacesTest {
    private static final Check CHECK = new Check();

    public static void main(String[] args) {
        oneDay();
        byAllRows();
        far();
        longest();
        noWay();
        wrong();
        copyWalls();
        wetByAllDays();
        wetWrong();
        CHECK.finish();
    }

    private static FootQuarrel places(int foot, long... numbers) {
        FootQuarrel q = new FootQuarrel();
        q.rule(foot);
        q.tray(0, 3, numbers.length);
        for (int i = 0; i < numbers.length; i++) {
            q.write(0, i, numbers[i]);
        }
        return q;
    }

    private static void oneDay() {
        int[][] want = {{-3, 1, 3, 1}, {-2, 1, 2, 1}, {-1, 4, 1, 3}, {0, 3, 0, 1}, {1, 4, 1, 1}, {2, 1, 2, 0}, {3, 1, 3, 0}};
        for (int foot = 1; foot <= 9; foot++) {
            for (int[] row : want) {
                FootQuarrel q = places(foot, 50, 50 + row[0] * foot);
                String day = row[0] + " SHOUTS of " + foot;
                CHECK.fine(q, "ways, " + day, q.ways(0, 2), row[1]);
                CHECK.fine(q, "fewest, " + day, q.fewest(0, 2), row[2]);
                CHECK.fine(q, "blame, " + day, q.blame(0, 2), row[3]);
            }
        }
    }

    /** Each row of DAYS against all rows of SHOUTS. */
    private static void byAllRows() {
        for (int first = -4; first <= 4; first++) {
            for (int second = -4; second <= 4; second++) {
                for (int third = -2; third <= 2; third++) {
                    int[] steps = {first, second, third};
                    FootQuarrel q = places(2, 40, 40 + 2 * first, 40 + 2 * (first + second), 40 + 2 * (first + second + third));
                    long[] want = count(steps, 0, 0, 0);
                    String days = "DAYS " + first + ", " + second + ", " + third;
                    CHECK.fine(q, "ways, " + days, q.ways(0, 4), want[0]);
                    CHECK.fine(q, "blame, " + days, q.blame(0, 4), want[1]);
                    if (want[0] == 0) {
                        CHECK.refused(q, "fewest, " + days, q.fewest(0, 4), 6);
                    } else {
                        CHECK.fine(q, "fewest, " + days, q.fewest(0, 4), want[2]);
                    }
                }
            }
        }
    }

    /** Ways, those that begin on the left, the fewest SHOUTS; began: 0 not yet, 1 left, 2 right. */
    private static long[] count(int[] steps, int day, int began, int shouts) {
        if (day == steps.length) {
            return new long[] {1, began == 1 ? 1 : 0, shouts};
        }
        long[] all = {0, 0, Long.MAX_VALUE};
        for (int many = 0; many <= 3; many++) {
            for (int row = 0; row < 1 << many; row++) {
                int net = 2 * Integer.bitCount(row) - many;
                if (net != steps[day]) {
                    continue;
                }
                int begins = began != 0 || many == 0 ? began : (row & 1) == 0 ? 1 : 2;
                long[] rest = count(steps, day + 1, begins, shouts + many);
                all[0] += rest[0];
                all[1] += rest[1];
                all[2] = Math.min(all[2], rest[2]);
            }
        }
        return all;
    }

    private static void far() {
        FootQuarrel q = places(9, Long.MAX_VALUE, 0, Long.MAX_VALUE);
        CHECK.fine(q, "ways, too far", q.ways(0, 3), 0);
        CHECK.fine(q, "blame, too far", q.blame(0, 3), 0);
        CHECK.refused(q, "fewest, too far", q.fewest(0, 3), 6);
        FootQuarrel near = places(3, Long.MAX_VALUE, Long.MAX_VALUE - 9, Long.MAX_VALUE);
        CHECK.fine(near, "ways, far out", near.ways(0, 3), 1);
        CHECK.fine(near, "fewest, far out", near.fewest(0, 3), 6);
    }

    private static void longest() {
        long[] same = new long[12];
        FootQuarrel still = places(1, same);
        CHECK.fine(still, "ways, 12 PLACES", still.ways(0, 12), 177147);
        CHECK.fine(still, "blame, 12 PLACES", still.blame(0, 12), 88573);
        CHECK.fine(still, "fewest, 12 PLACES", still.fewest(0, 12), 0);
        CHECK.fine(still, "ways, 1 PLACE", still.ways(0, 1), 1);
        CHECK.fine(still, "blame, 1 PLACE", still.blame(0, 1), 0);
        CHECK.fine(still, "fewest, 1 PLACE", still.fewest(0, 1), 0);
        long[] steps = new long[12];
        for (int i = 0; i < 12; i++) {
            steps[i] = i;
        }
        FootQuarrel right = places(1, steps);
        CHECK.fine(right, "ways, ever to the right", right.ways(0, 12), 4194304);
        CHECK.fine(right, "blame, ever to the right", right.blame(0, 12), 1048576);
        CHECK.fine(right, "fewest, ever to the right", right.fewest(0, 12), 11);
    }

    private static void noWay() {
        FootQuarrel q = places(2, 5, 6, 8);
        CHECK.fine(q, "ways by half a FOOT", q.ways(0, 2), 0);
        CHECK.fine(q, "blame by half a FOOT", q.blame(0, 3), 0);
        CHECK.refused(q, "fewest by half a FOOT", q.fewest(0, 3), 6);
        q.rule(1);
        CHECK.fine(q, "ways by FOOT as it is", q.ways(0, 3), 4);
    }

    private static void wrong() {
        FootQuarrel q = places(1, 1, 1, -1);
        CHECK.fine(q, "ways(0, 2): the first 2 alone", q.ways(0, 2), 3);
        for (int tray = -1; tray <= 4; tray += 5) {
            CHECK.refused(q, "ways, no TRAY", q.ways(tray, 1), 1);
            CHECK.refused(q, "fewest, no TRAY", q.fewest(tray, 1), 1);
            CHECK.refused(q, "blame, no TRAY", q.blame(tray, 1), 1);
        }
        for (int n : new int[] {0, 13, -1}) {
            CHECK.refused(q, "ways, n " + n, q.ways(1, n), 1);
            CHECK.refused(q, "fewest, n " + n, q.fewest(1, n), 1);
            CHECK.refused(q, "blame, n " + n, q.blame(1, n), 1);
        }
        CHECK.fine(q, "ways(0, 2) behind what was refused", q.ways(0, 2), 3);
        q.told(99);
        CHECK.fine(q, "blame(0, 2) behind what was refused", q.blame(0, 2), 1);
        FootQuarrel first = places(1, -1, 0);
        CHECK.refused(first, "ways, the first below 0", first.ways(0, 1), 5);
        CHECK.refused(first, "fewest, the first below 0", first.fewest(0, 2), 5);
        CHECK.refused(first, "blame, the first below 0", first.blame(0, 2), 5);
        CHECK.refused(q, "ways, MISSING", q.ways(1, 1), 2);
        CHECK.refused(q, "fewest, MISSING", q.fewest(1, 1), 2);
        CHECK.refused(q, "blame, MISSING", q.blame(1, 1), 2);
        CHECK.refused(q, "ways, too few", q.ways(0, 4), 3);
        CHECK.refused(q, "fewest, too few", q.fewest(0, 4), 3);
        CHECK.refused(q, "blame, too few", q.blame(0, 4), 3);
        CHECK.refused(q, "ways, below 0", q.ways(0, 3), 5);
        CHECK.refused(q, "fewest, below 0", q.fewest(0, 3), 5);
        CHECK.refused(q, "blame, below 0", q.blame(0, 3), 5);
    }

    private static void copyWalls() {
        FootQuarrel q = Check.withStreet("house a wide 99; house b wide 60; house c wide 0; house d wide 1;");
        CHECK.refused(q, "copyWalls(4)", q.copyWalls(4), 1);
        CHECK.refused(q, "copyWalls(-1)", q.copyWalls(-1), 1);
        CHECK.refused(q, "copyWalls(0), MISSING", q.copyWalls(0), 2);
        q.tray(0, 1, 2);
        q.write(0, 0, 7);
        CHECK.refused(q, "copyWalls(0), too few", q.copyWalls(0), 3);
        CHECK.due("nothing came", q.read(0, 0), 7);
        q.tray(0, 1, 4);
        q.write(0, 3, 7);
        CHECK.fine(q, "copyWalls(0)", q.copyWalls(0), 3);
        long[] want = {99, 159, 159, 7};
        for (int i = 0; i < 4; i++) {
            CHECK.due("read(0, " + i + ")", q.read(0, i), want[i]);
        }
        q.tray(1, 0, 3);
        q.copyWalls(1);
        CHECK.due("cut to 8 bits", q.read(1, 1), (byte) 159);
        FootQuarrel one = Check.withStreet("house a wide 99;");
        one.tray(0, 1, 0);
        CHECK.fine(one, "copyWalls(0) of one HOUSE", one.copyWalls(0), 0);
    }

    private static void wetByAllDays() {
        for (int odds = 0; odds <= 16; odds++) {
            FootQuarrel q = Check.withStreet("odds " + odds + ";");
            for (int n = 0; n <= 12; n++) {
                for (int k = 0; k <= 12; k++) {
                    BigInteger wet = BigInteger.ZERO;
                    for (int days = 0; days < 1 << n; days++) {
                        if (Integer.bitCount(days) >= k) {
                            int rainy = Integer.bitCount(days);
                            wet = wet.add(BigInteger.valueOf(odds).pow(rainy).multiply(BigInteger.valueOf(16 - odds).pow(n - rainy)));
                        }
                    }
                    BigInteger all = BigInteger.valueOf(16).pow(n);
                    BigInteger common = wet.gcd(all);
                    CHECK.fraction(q, "wet(" + n + ", " + k + ") by " + odds, q.wet(n, k),
                            wet.divide(common).longValueExact(), all.divide(common).longValueExact());
                }
            }
        }
    }

    private static void wetWrong() {
        FootQuarrel q = new FootQuarrel();
        CHECK.fraction(q, "wet(1, 1)", q.wet(1, 1), 1, 4);
        CHECK.denied(q, "wet(-1, 0)", q.wet(-1, 0), 1);
        CHECK.denied(q, "wet(13, 0)", q.wet(13, 0), 1);
        CHECK.denied(q, "wet(0, -1)", q.wet(0, -1), 1);
        CHECK.denied(q, "wet(0, 13)", q.wet(0, 13), 1);
        CHECK.due("top() stays", q.top(), 1);
        CHECK.due("bottom() stays", q.bottom(), 4);
    }
}
