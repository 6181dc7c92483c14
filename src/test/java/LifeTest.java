/** Promises 57 to 59: YEARS are LIVED. */
public final class LifeTest {
    private static final Check CHECK = new Check();
    private static final String ROW = "foot 2; odds 6; house a wide 20; house b wide 20; house c wide 20;"
            + "person p in a temper 9 hears 7 voice 8; person r in b temper 12 hears 6 voice 6;"
            + "person s in c temper 5 hears 5 voice 9; person t in b temper 20 hears 9 voice 5; person u in c temper 1;";

    public static void main(String[] args) {
        wrong();
        weather();
        says();
        sorry();
        nights();
        blocks();
        tests();
        limit();
        anyOfNobody();
        anyByDraws();
        allIsAsItIsThen();
        mean();
        meanWrong();
        CHECK.finish();
    }

    private static void lives(FootQuarrel q, String text, int done, int... lived) {
        if (Check.years(q, text) == FootQuarrel.NONE) {
            CHECK.due("years: " + text, q.fault(0), 0);
        }
        CHECK.fine(q, "live(0): " + text, q.live(0), done);
        for (int what = 0; what < lived.length; what++) {
            CHECK.fine(q, "lived(" + what + "): " + text, q.lived(what), lived[what]);
        }
    }

    private static void wrong() {
        FootQuarrel q = Check.withStreet(ROW);
        CHECK.refused(q, "live(0) without YEARS", q.live(0), 6);
        CHECK.refused(q, "live(-1) without YEARS", q.live(-1), 1);
        CHECK.refused(q, "lived(0), none", q.lived(0), 6);
        CHECK.refused(q, "lived(5), none", q.lived(5), 1);
        Check.years(q, "rain; rain;");
        CHECK.refused(q, "live(-1)", q.live(-1), 1);
        CHECK.refused(q, "live(10000)", q.live(10000), 1);
        CHECK.refused(q, "lived(0), none still", q.lived(0), 6);
        CHECK.fine(q, "live(9999)", q.live(9999), 2);
        CHECK.fine(q, "lived(0)", q.lived(0), 1);
        CHECK.refused(q, "lived(5)", q.lived(5), 1);
        CHECK.refused(q, "lived(-1)", q.lived(-1), 1);
        CHECK.refused(q, "live(10000)", q.live(10000), 1);
        CHECK.fine(q, "lived(0) of the one ahead", q.lived(0), 1);
        Check.street(q, ROW);
        CHECK.refused(q, "live(0) of a new STREET", q.live(0), 6);
        CHECK.fine(q, "lived(0) of live() latest with STATUS 0", q.lived(0), 1);
    }

    private static void weather() {
        FootQuarrel q = Check.withStreet(ROW);
        lives(q, "rain; rain; dry; dry; dry;", 5, 3, 0, 0, 0, 0);
        CHECK.due("told(7)", q.told(7), 0);
        lives(q, "dry; rain;", 2, 1, 0, 0, 0, 0);
        CHECK.due("told(7)", q.told(7), 1);
        lives(q, "rain;", 1, 1, 0, 0, 0, 0);
        CHECK.due("told(7) stays", q.told(7), 1);
    }

    private static void says() {
        FootQuarrel q = Check.withStreet(ROW);
        lives(q, "say p r; say p s; say p p; say r t;", 4, 3, 0, 1, 0, 0);
        CHECK.due("person(1, 5)", q.person(1, 5), 8);
        CHECK.due("told(11)", q.told(11), 1);
        // r SHOUTS at 16, p hears 9 and bears it.
        lives(q, "say p r;", 1, 0, 0, 1, 1, 0);
        CHECK.due("quarrel(0, 2)", q.quarrel(0, 2), 0);
        CHECK.due("quarrel(0, 3)", q.quarrel(0, 3), 1);
        CHECK.due("wall(0)", q.wall(0), 22);
        q.peace(0, true);
        lives(q, "say p r;", 1, 1, 0, 0, 0, 0);
    }

    private static void sorry() {
        FootQuarrel q = Check.withStreet("foot 4;" + "house a wide 9; house b wide 9; person p in a temper 30; person r in b temper 0;");
        lives(q, "sorry;", 1, 1, 0, 0, 0, 0);
        lives(q, "say p r; sorry; sorry;", 3, 1, 0, 1, 1, 0);
        CHECK.due("wall(0)", q.wall(0), 11);
        lives(q, "say p r; night 1; sorry; say p r; sorry;", 5, 1, 1, 2, 2, 0);
        CHECK.due("quarrel(0, 6)", q.quarrel(0, 6), 1);
        CHECK.due("quarrel(1, 6)", q.quarrel(1, 6), 0);
    }

    private static void nights() {
        FootQuarrel q = Check.withStreet("calm 3; house a wide 9; house b wide 9; person p in a voice 9; person r in b;");
        lives(q, "say p r; night 2; night 20;", 3, 0, 22, 1, 0, 0);
        CHECK.due("told(6)", q.told(6), 22);
        for (int i = 0; i < 100; i++) {
            q.night(99);
        }
        q.night(68);
        CHECK.due("told(6)", q.told(6), 9990);
        lives(q, "night 10; night 9; night 1;", 3, 2, 9, 0, 0, 0);
        CHECK.due("the last DAY", q.told(6), 9999);
    }

    private static void blocks() {
        FootQuarrel q = Check.withStreet(ROW);
        lives(q, "", 0, 0, 0, 0, 0, 0);
        lives(q, "loop 3; rain; dry; end;", 7, 0, 0, 0, 0, 0);
        lives(q, "loop 3; end; loop 99; end;", 2, 0, 0, 0, 0, 0);
        lives(q, "loop 2; loop 3; night 1; end; end;", 9, 0, 6, 0, 0, 0);
        lives(q, "when raining; night 1; end; night 2;", 2, 0, 2, 0, 0, 0);
        lives(q, "rain; when raining; night 1; end; dry; when raining; when raining; end; end;", 5, 0, 1, 0, 0, 0);
        lives(q, "loop 5; night 1; stop; end; night 1;", 3, 0, 1, 0, 0, 0);
        lives(q, "stop; rain;", 1, 0, 0, 0, 0, 0);
        lives(q, "loop 2; when raining; dry; loop 2; night 1; end; end; rain; end; dry;", 10, 0, 2, 0, 0, 0);
        lives(q, "loop 2; when raining; end; loop 2; night 3; end; end;", 9, 0, 12, 0, 0, 0);
    }

    private static void tests() {
        FootQuarrel q = Check.withStreet("house a wide 7; house b wide 0; person p in a voice 8; person r in b hears 9;");
        q.say(0, 1);
        String[] signs = {"<", ">", "="};
        for (int number = 6; number <= 9; number++) {
            boolean[] angry = {8 < number, 8 > number, 8 == number};
            boolean[] wide = {7 < number, 7 > number, 7 == number};
            for (int i = 0; i < 3; i++) {
                lives(q, "when angry r " + signs[i] + number + "; rain; dry; end;", angry[i] ? 3 : 1);
                lives(q, "when wide a " + signs[i] + number + "; rain; dry; end;", wide[i] ? 3 : 1);
            }
        }
        lives(q, "when angry p = 0; rain; dry; end;", 3);
        lives(q, "when wide b = 0; rain; dry; end;", 3);
        lives(q, "when wide b < 999; rain; dry; end;", 3);
        lives(q, "when angry r > 99; rain; dry; end;", 1);
    }

    private static void limit() {
        FootQuarrel q = Check.withStreet(ROW);
        String most = "loop 99; rain; dry; night 1; end;";
        lives(q, most, 298, 0, 99, 0, 0, 0);
        lives(q, most + "rain; dry;", 300, 0, 99, 0, 0, 0);
        lives(q, most + "rain; dry; stop;", 300, 0, 99, 0, 0, 1);
        lives(q, most + "rain; dry; when raining; end;", 300, 0, 99, 0, 0, 1);
        lives(q, most + "loop 3; dry; end;", 300, 1, 99, 0, 0, 1);
        lives(q, most + "dry; loop 99; end;", 300, 1, 99, 0, 0, 0);
        lives(q, most + "dry; when raining; night 1; end;", 300, 1, 99, 0, 0, 0);
        lives(q, most + "dry; stop;", 300, 1, 99, 0, 0, 0);
        lives(q, most + "dry; stop; rain;", 300, 1, 99, 0, 0, 0);
        lives(q, "loop 99; loop 99; loop 99; end; end; end;", 300, 0, 0, 0, 0, 1);
        lives(q, "loop 99; rain; loop 2; dry; end; end;", 300, 74, 0, 0, 0, 1);
        lives(q, "rain;", 1);
        CHECK.due("lived(4) of the latest", q.lived(4), 0);
    }

    private static void anyOfNobody() {
        FootQuarrel q = Check.withStreet("odds 16; house a wide 5;");
        lives(q, "any; any;", 2, 2, 0, 0, 0, 0);
        CHECK.due("the weather stays", q.told(7), 0);
        q.rain(true);
        Check.street(q, "odds 0;");
        q.rain(true);
        lives(q, "any;", 1, 1, 0, 0, 0, 0);
        CHECK.due("the weather stays", q.told(7), 1);
    }

    private static int s;

    private static int draw(int n) {
        s = (int) ((s * 3067L + 11287L) % 65536L);
        return s / 8 % n;
    }

    /** What any does, done by the other calls. */
    private static void anyByDraws() {
        for (int seed = 0; seed <= 9999; seed += 303) {
            FootQuarrel lived = Check.withStreet(ROW);
            FootQuarrel done = Check.withStreet(ROW);
            Check.years(lived, "loop 60; any; any; sorry; night 1; end;");
            CHECK.fine(lived, "live(" + seed + ")", lived.live(seed), 241);
            s = seed;
            int missed = 0;
            for (int i = 0; i < 60; i++) {
                for (int j = 0; j < 2; j++) {
                    done.rain(draw(16) < 6);
                    int one = draw(5);
                    int other = draw(5);
                    missed += done.say(one, other) == FootQuarrel.NONE ? 1 : 0;
                }
                missed += done.sorry(0) == FootQuarrel.NONE ? 1 : 0;
                done.night(1);
            }
            CHECK.due("MISSED by seed " + seed, lived.lived(0), missed);
            CHECK.due("NIGHTS by seed " + seed, lived.lived(1), 60);
            CHECK.due("things said by seed " + seed, lived.lived(2), done.told(11));
            CHECK.due("SHOUTS by seed " + seed, lived.lived(3), done.told(12));
            alike("by seed " + seed, lived, done);
        }
        // By the seed 1: s is 14,354, then 60,349, then 28,006: the draws are 2 of 16, 3 of 5, 0 of 5.
        FootQuarrel one = Check.withStreet(ROW);
        Check.years(one, "any;");
        CHECK.fine(one, "live(1)", one.live(1), 1);
        CHECK.due("it rains", one.told(7), 1);
        CHECK.due("t says something to p", one.person(0, 5), 3);
    }

    private static void alike(String what, FootQuarrel one, FootQuarrel other) {
        for (int i = 0; i <= 12; i++) {
            CHECK.due("told(" + i + ") " + what, one.told(i), other.told(i));
        }
        for (int house = 0; house < one.told(0); house++) {
            for (int i = 0; i < 4; i++) {
                CHECK.due("house(" + house + ", " + i + ") " + what, one.house(house, i), other.house(house, i));
            }
        }
        for (int person = 0; person < one.told(1); person++) {
            for (int i = 0; i < 7; i++) {
                CHECK.due("person(" + person + ", " + i + ") " + what, one.person(person, i), other.person(person, i));
            }
        }
        for (int k = 0; k < one.told(2); k++) {
            for (int i = 0; i < 7; i++) {
                CHECK.due("quarrel(" + k + ", " + i + ") " + what, one.quarrel(k, i), other.quarrel(k, i));
            }
        }
    }

    private static void allIsAsItIsThen() {
        FootQuarrel q = Check.withStreet(ROW);
        Check.years(q, "loop 10; any; night 1; end;");
        CHECK.fine(q, "live(7)", q.live(7), 21);
        CHECK.fine(q, "live(7) once more", q.live(7), 21);
        CHECK.due("told(6)", q.told(6), 20);
    }

    private static void mean() {
        FootQuarrel q = Check.withStreet(ROW);
        Check.years(q, "loop 70; any; any; any; end;");
        q.say(0, 1);
        q.say(4, 1);
        for (int house = 0; house < 3; house++) {
            for (int many : new int[] {1, 2, 7, 20}) {
                int seed = 10000 - many;
                long sum = 0;
                for (int i = 0; i < many; i++) {
                    q.mark();
                    q.live(seed + i);
                    sum += q.house(house, 0);
                    q.undo();
                }
                long common = java.math.BigInteger.valueOf(sum).gcd(java.math.BigInteger.valueOf(many)).longValue();
                int missed = q.lived(0);
                int said = q.told(11);
                CHECK.fraction(q, "mean(" + house + ", " + seed + ", " + many + ")", q.mean(house, seed, many),
                        sum / common, many / common);
                CHECK.due("lived(0) stays", q.lived(0), missed);
                CHECK.due("told(11) stays", q.told(11), said);
                CHECK.due("house(0, 0) stays", q.house(0, 0), 20);
            }
        }
        FootQuarrel flat = Check.withStreet("house a wide 0;");
        flat.years(0);
        CHECK.fraction(flat, "mean of 0", flat.mean(0, 0, 20), 0, 1);
        CHECK.refused(flat, "mean() is no live()", flat.lived(0), 6);
    }

    private static void meanWrong() {
        FootQuarrel q = Check.withStreet(ROW);
        CHECK.denied(q, "mean without YEARS", q.mean(0, 0, 1), 6);
        CHECK.denied(q, "mean(3, 0, 1) without YEARS", q.mean(3, 0, 1), 1);
        q.years(0);
        CHECK.denied(q, "mean(3, 0, 1)", q.mean(3, 0, 1), 1);
        CHECK.denied(q, "mean(-1, 0, 1)", q.mean(-1, 0, 1), 1);
        CHECK.denied(q, "mean(0, -1, 5)", q.mean(0, -1, 5), 1);
        CHECK.denied(q, "mean(0, 10000, 1)", q.mean(0, 10000, 1), 1);
        CHECK.denied(q, "mean(0, 0, 0)", q.mean(0, 0, 0), 1);
        CHECK.denied(q, "mean(0, 0, 21)", q.mean(0, 0, 21), 1);
        CHECK.denied(q, "mean(0, 9999, 2)", q.mean(0, 9999, 2), 1);
        CHECK.denied(q, "mean(0, 9981, 20)", q.mean(0, 9981, 20), 1);
        CHECK.denied(q, "mean(0, 2147483647, 20)", q.mean(0, Integer.MAX_VALUE, 20), 1);
        CHECK.fraction(q, "mean(0, 9980, 20)", q.mean(0, 9980, 20), 20, 1);
    }
}
