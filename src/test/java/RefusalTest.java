import java.util.function.Consumer;
import java.util.function.Predicate;
import java.util.function.ToLongFunction;

/**
 * "With another STATUS than 0 a call gives NONE, or false, and changes nothing else (but street(), years() with 9 the
 * tape, and what fault() tells)": every call that can be refused, by every STATUS that it can have. Each is made in a
 * rich scene, which must be as another one in which the call was not made.
 */
public final class RefusalTest {
    private static final Check CHECK = new Check();
    private static final Consumer<FootQuarrel> AS_IT_IS = q -> { };
    private static final int[] NO_TRAYS = {-1, 4, Integer.MIN_VALUE, Integer.MAX_VALUE};
    // The scene has three HOUSES and three PEOPLE.
    private static final int[] NONE_OF_THREE = {-1, 3, Integer.MIN_VALUE, Integer.MAX_VALUE};
    private static final int[] NO_WALLS = {-1, 2, Integer.MIN_VALUE, Integer.MAX_VALUE};
    private static final int[][] NO_PAIRS = {{1, 1}, {0, 3}, {3, 0}, {-1, 0}, {0, -1}, {3, 3}, {Integer.MAX_VALUE, Integer.MIN_VALUE}};

    public static void main(String[] args) {
        trays();
        pours();
        texts();
        textsWithFaults();
        told();
        pairs();
        notNear();
        deeds();
        deedsThatCannotBe();
        nights();
        wouldBe();
        noneSuch();
        games();
        places();
        rainyDays();
        lives();
        marks();
        CHECK.finish();
    }

    private static void number(String call, int status, ToLongFunction<FootQuarrel> made) {
        number(call, status, AS_IT_IS, made);
    }

    /** The call is refused behind what is done ahead of it, and leaves all as that left it. */
    private static void number(String call, int status, Consumer<FootQuarrel> ahead, ToLongFunction<FootQuarrel> made) {
        FootQuarrel q = Scene.rich();
        ahead.accept(q);
        CHECK.refused(q, call, made.applyAsLong(q), status);
        unchanged(call, q, ahead);
    }

    private static void truth(String call, int status, Predicate<FootQuarrel> made) {
        truth(call, status, AS_IT_IS, made);
    }

    private static void truth(String call, int status, Consumer<FootQuarrel> ahead, Predicate<FootQuarrel> made) {
        FootQuarrel q = Scene.rich();
        ahead.accept(q);
        CHECK.denied(q, call, made.test(q), status);
        unchanged(call, q, ahead);
    }

    private static void unchanged(String call, FootQuarrel q, Consumer<FootQuarrel> ahead) {
        FootQuarrel without = Scene.rich();
        ahead.accept(without);
        String want = Scene.portrait(without);
        String got = Scene.portrait(q);
        if (!got.equals(want)) {
            CHECK.due("that " + call + " changed nothing", false, true);
            System.out.println(want + "\n-- became --\n" + got);
        }
    }

    private static void trays() {
        for (int tray : NO_TRAYS) {
            truth("tray(" + tray + ", 1, 2)", 1, q -> q.tray(tray, 1, 2));
            truth("write(" + tray + ", 0, 9)", 1, q -> q.write(tray, 0, 9));
            number("read(" + tray + ", 0)", 1, q -> q.read(tray, 0));
            number("copyWalls(" + tray + ")", 1, q -> q.copyWalls(tray));
        }
        for (int sort : new int[] {-1, 4, Integer.MAX_VALUE, Integer.MIN_VALUE}) {
            truth("tray(0, " + sort + ", 3)", 1, q -> q.tray(0, sort, 3));
        }
        for (int many : new int[] {-1, 61, Integer.MAX_VALUE, Integer.MIN_VALUE}) {
            truth("tray(0, 3, " + many + ")", 1, q -> q.tray(0, 3, many));
        }
        truth("write to a MISSING TRAY", 2, q -> q.write(3, 0, 9));
        number("read of a MISSING TRAY", 2, q -> q.read(3, 0));
        number("copyWalls to a MISSING TRAY", 2, q -> q.copyWalls(3));
        for (int place : new int[] {-1, 3, 60, Integer.MAX_VALUE, Integer.MIN_VALUE}) {
            truth("write(0, " + place + ", 9)", 3, q -> q.write(0, place, 9));
            number("read(0, " + place + ")", 3, q -> q.read(0, place));
        }
        truth("write to a row of no numbers", 3, q -> q.write(2, 0, 9));
        number("read of a row of no numbers", 3, q -> q.read(2, 0));
        number("copyWalls to a row of no numbers", 3, q -> q.copyWalls(2));
        number("copyWalls to a row of one number", 3, q -> {
            q.tray(3, 2, 1);
            q.write(3, 0, 5);
        }, q -> q.copyWalls(3));
    }

    private static void pours() {
        for (int tray : NO_TRAYS) {
            truth("pour from TRAY " + tray, 1, q -> q.pour(tray, 0, 0, 0, 1));
            truth("pour to TRAY " + tray, 1, q -> q.pour(0, 0, tray, 0, 1));
        }
        for (int below : new int[] {-1, Integer.MIN_VALUE}) {
            truth("pour from place " + below, 1, q -> q.pour(0, below, 0, 0, 1));
            truth("pour to place " + below, 1, q -> q.pour(0, 0, 0, below, 1));
            truth("pour " + below + " numbers", 1, q -> q.pour(0, 0, 0, 0, below));
        }
        truth("pour from a MISSING TRAY", 2, q -> q.pour(3, 0, 0, 0, 1));
        truth("pour to a MISSING TRAY", 2, q -> q.pour(0, 0, 3, 0, 1));
        truth("pour to another sort", 8, q -> q.pour(0, 0, 1, 0, 1));
        truth("pour from another sort", 8, q -> q.pour(1, 0, 0, 0, 1));
        truth("pour 2 numbers from the last place", 3, q -> q.pour(0, 2, 0, 0, 2));
        truth("pour 2 numbers to the last place", 3, q -> q.pour(0, 0, 0, 2, 2));
        truth("pour 4 of 3 numbers", 3, q -> q.pour(0, 0, 0, 0, 4));
        truth("pour from behind the end", 3, q -> q.pour(0, 3, 0, 0, 1));
        truth("pour to behind the end", 3, q -> q.pour(0, 0, 0, 3, 1));
        truth("pour the most numbers", 3, q -> q.pour(0, 1, 0, 0, Integer.MAX_VALUE));
        truth("pour from the farthest place", 3, q -> q.pour(0, Integer.MAX_VALUE, 0, 0, 1));
        truth("pour to the farthest place", 3, q -> q.pour(0, 0, 0, Integer.MAX_VALUE, 1));
    }

    private static void texts() {
        for (int n : new int[] {-1, 61, 900, Integer.MAX_VALUE, Integer.MIN_VALUE}) {
            number("street(" + n + ") of 60 bytes", 1, q -> q.street(n));
            number("years(" + n + ") of 60 bytes", 1, q -> q.years(n));
        }
        // feed() has no STATUS; it gives NONE and leaves the tape as it was.
        FootQuarrel q = new FootQuarrel();
        Check.feed(q, Check.times(" ", 893) + "foot 7;");
        q.told(99);
        CHECK.due("feed to a full tape", q.feed(0x31313131, 0, 0, 0, 0), -1);
        CHECK.due("status() behind feed()", q.status(), 1);
        CHECK.due("street(900)", q.street(900), 0);
        CHECK.due("the tape was as it was", q.told(3), 7);
        number("years(301) of 320 bytes", 1, r -> fill(r, 320), r -> r.years(301));
        number("years(320) of 320 bytes", 1, r -> fill(r, 320), r -> r.years(320));
    }

    /** So many bytes stand on the tape of a scene then, that of the scene at first. */
    private static void fill(FootQuarrel q, int many) {
        for (int i = 60; i < many; i += 20) {
            q.feed(0x20202020, 0x20202020, 0x20202020, 0x20202020, 0x20202020);
        }
    }

    /** All but the tape and what fault() tells stays with 9. */
    private static void textsWithFaults() {
        String[] streets = {"$", "foot 7; calm 9; odds 1; house z wide 1; house y wide 2; person x in y; peace z y",
            "house z wide 1; house z", "foot 7; foot 7;", "odds 17;", "house z wide 9; person y in z pay 100;"};
        for (String text : streets) {
            textWithFault("street: " + text, q -> Check.street(q, text));
        }
        String[] years = {"$", "rain; rain; rain", "end;", "loop 3; say p r;", "night 21;", "say p x;", "stop; foot;",
            Check.times("rain;", 31), "loop 1;loop 1;loop 1;loop 1;"};
        for (String text : years) {
            textWithFault("years: " + text, q -> Check.years(q, text));
        }
    }

    private static void textWithFault(String call, ToLongFunction<FootQuarrel> made) {
        String want = Scene.portraitWithoutText(emptied());
        FootQuarrel q = emptied();
        CHECK.refused(q, call, made.applyAsLong(q), 9);
        CHECK.due("that " + call + " changed nothing", Scene.portraitWithoutText(q).equals(want), true);
        FootQuarrel again = emptied();
        made.applyAsLong(again);
        CHECK.due("the tape behind " + call, again.feed(0, 0, 0, 0, 0), 20);
    }

    /** A scene with an empty tape: a text that can't be taken empties it. */
    private static FootQuarrel emptied() {
        FootQuarrel q = Scene.rich();
        q.years(5);
        return q;
    }

    private static void told() {
        for (int what : new int[] {-1, 13, Integer.MAX_VALUE, Integer.MIN_VALUE}) {
            number("told(" + what + ")", 1, q -> q.told(what));
        }
        for (int none : NONE_OF_THREE) {
            number("house(" + none + ", 0)", 1, q -> q.house(none, 0));
            number("person(" + none + ", 0)", 1, q -> q.person(none, 0));
            number("quarrel(" + none + ", 0)", 1, q -> q.quarrel(none, 0));
            number("neighbours(" + none + ")", 1, q -> q.neighbours(none));
        }
        for (int what : new int[] {-1, 4, Integer.MAX_VALUE, Integer.MIN_VALUE}) {
            number("house(2, " + what + ")", 1, q -> q.house(2, what));
        }
        for (int what : new int[] {-1, 7, Integer.MAX_VALUE, Integer.MIN_VALUE}) {
            number("person(2, " + what + ")", 1, q -> q.person(2, what));
            number("quarrel(2, " + what + ")", 1, q -> q.quarrel(2, what));
        }
        for (int wall : NO_WALLS) {
            number("wall(" + wall + ")", 1, q -> q.wall(wall));
            number("quiet(" + wall + ")", 1, q -> q.quiet(wall));
            number("began(" + wall + ")", 1, q -> q.began(wall));
            number("quarrelsAt(" + wall + ")", 1, q -> q.quarrelsAt(wall));
            number("survey(" + wall + ")", 1, q -> q.survey(wall));
            truth("peace(" + wall + ", true)", 1, q -> q.peace(wall, true));
            truth("peace(" + wall + ", false)", 1, q -> q.peace(wall, false));
        }
    }

    private static void pairs() {
        for (int[] pair : NO_PAIRS) {
            int one = pair[0];
            int other = pair[1];
            String of = "(" + one + ", " + other + ")";
            number("near" + of, 1, q -> q.near(one, other));
            number("say" + of, 1, q -> q.say(one, other));
            number("hears" + of, 1, q -> q.hears(one, other));
            number("shoutsBy" + of, 1, q -> q.shoutsBy(one, other));
            number("gainBy" + of, 1, q -> q.gainBy(one, other));
            number("bait" + of, 1, q -> q.bait(one, other));
            number("leastVoice" + of, 1, q -> q.leastVoice(one, other));
            number("game" + of, 1, q -> q.game(one, other, 2));
            number("moveOf" + of, 1, q -> q.moveOf(one, other, 2));
        }
    }

    /** PEOPLE in one HOUSE, in HOUSES at PEACE, in HOUSES that are too far from each other. */
    private static void notNear() {
        Consumer<FootQuarrel> peace = AS_IT_IS;
        Consumer<FootQuarrel> together = q -> q.move(2, 1);
        Consumer<FootQuarrel> far = q -> {
            q.peace(1, false);
            q.move(1, 0);
        };
        notNear("at PEACE", peace);
        notNear("in one HOUSE", together);
        notNear("too far", far);
    }

    private static void notNear(String why, Consumer<FootQuarrel> ahead) {
        number("say " + why, 7, ahead, q -> q.say(1, 2));
        number("shoutsBy " + why, 7, ahead, q -> q.shoutsBy(1, 2));
        number("gainBy " + why, 7, ahead, q -> q.gainBy(1, 2));
        number("bait " + why, 7, ahead, q -> q.bait(1, 2));
        number("leastVoice " + why, 7, ahead, q -> q.leastVoice(1, 2));
        number("game " + why, 7, ahead, q -> q.game(1, 2, 2));
        number("moveOf " + why, 7, ahead, q -> q.moveOf(1, 2, 2));
    }

    private static void deeds() {
        for (int none : NONE_OF_THREE) {
            number("sorry(" + none + ")", 1, q -> q.sorry(none));
            number("move(" + none + ", 0)", 1, q -> q.move(none, 0));
            number("move(0, " + none + ")", 1, q -> q.move(0, none));
            truth("change(" + none + ", 1, 1)", 1, q -> q.change(none, 1, 1));
            number("soothe(" + none + ")", 1, q -> q.soothe(none));
        }
        for (int what : new int[] {-1, 0, 5, Integer.MAX_VALUE, Integer.MIN_VALUE}) {
            truth("change(0, " + what + ", 1)", 1, q -> q.change(0, what, 1));
        }
        int[][] wrong = {{1, -1}, {1, 31}, {2, -1}, {2, 10}, {3, 0}, {3, 10}, {3, -1}, {4, -1}, {4, 100}, {1, Integer.MAX_VALUE}};
        for (int[] row : wrong) {
            truth("change(0, " + row[0] + ", " + row[1] + ")", 1, q -> q.change(0, row[0], row[1]));
        }
        for (int foot : new int[] {-1, 0, 10, Integer.MAX_VALUE, Integer.MIN_VALUE}) {
            truth("rule(" + foot + ")", 1, q -> q.rule(foot));
        }
    }

    private static void deedsThatCannotBe() {
        truth("rain(true) while it rains", 7, q -> q.rain(true), q -> q.rain(true));
        truth("rain(false) while it is dry", 7, q -> q.rain(false), q -> q.rain(false));
        truth("peace(1, true) at PEACE", 7, q -> q.peace(1, true));
        truth("peace(0, false) without PEACE", 7, q -> q.peace(0, false));
        for (int i = 0; i < 3; i++) {
            int home = i;
            number("move to where he lives, " + home, 7, q -> q.move(home, home));
        }
        number("sorry(0), halved", 7, q -> q.sorry(0));
        number("sorry(1), of another DAY", 7, q -> q.sorry(1));
        number("sorry(0), halved, of another DAY", 7, q -> q.night(1), q -> q.sorry(0));
    }

    private static void nights() {
        for (int many : new int[] {-1, 0, 100, Integer.MAX_VALUE, Integer.MIN_VALUE}) {
            number("night(" + many + ")", 1, q -> q.night(many));
        }
        Consumer<FootQuarrel> late = q -> {
            // The scene is at DAY 4.
            for (int i = 0; i < 100; i++) {
                q.night(99);
            }
            q.night(94);
            q.rain(q.told(7) == 0);
            q.say(0, 1);
        };
        number("night(2) at DAY 9,998", 4, late, q -> q.night(2));
        number("night(99) at DAY 9,998", 4, late, q -> q.night(99));
        number("night(1) at DAY 9,999", 4, late.andThen(q -> q.night(1)), q -> q.night(1));
    }

    private static void wouldBe() {
        for (int none : NONE_OF_THREE) {
            number("loud(" + none + ")", 1, q -> q.loud(none));
            number("heardBy(" + none + ")", 1, q -> q.heardBy(none));
            number("bestTo(" + none + ")", 1, q -> q.bestTo(none));
            number("dangers(" + none + ")", 1, q -> q.dangers(none));
            number("angerIn(" + none + ", 0)", 1, q -> q.angerIn(none, 0));
            number("hire(" + none + ")", 1, q -> q.hire(none));
            number("hireSet(" + none + ")", 1, q -> q.hireSet(none));
            truth("share(" + none + ")", 1, q -> q.share(none));
        }
        for (int nights : new int[] {-1, 100, Integer.MAX_VALUE, Integer.MIN_VALUE}) {
            number("angerIn(0, " + nights + ")", 1, q -> q.angerIn(0, nights));
        }
    }

    private static void noneSuch() {
        Consumer<FootQuarrel> deaf = q -> q.change(1, 2, 0);
        number("bestTo(0), he isn't heard", 6, deaf, q -> q.bestTo(0));
        number("bait(0, 1), he isn't heard", 6, deaf, q -> q.bait(0, 1));
        number("leastVoice(0, 1), he isn't heard", 6, deaf, q -> q.leastVoice(0, 1));
        number("hire(1), he hears nothing", 6, deaf, q -> q.hire(1));
        number("hireSet(1), he hears nothing", 6, deaf, q -> q.hireSet(1));
        Consumer<FootQuarrel> neverCalm = q -> {
            textInstead(q, "calm 0; house a wide 9; house b wide 9; person p in a voice 9; person r in b;");
            q.say(0, 1);
        };
        number("calmIn() without CALM", 6, neverCalm, FootQuarrel::calmIn);
        Consumer<FootQuarrel> fresh = q -> textInstead(q, "house a wide 0; house b wide 0; person p in a; person r in b;");
        number("loser(), none", 6, fresh, FootQuarrel::loser);
        number("loudest(), none", 6, fresh, FootQuarrel::loudest);
        truth("share(0) without land", 6, fresh, q -> q.share(0));
        number("began(0) without a QUARREL", 6, fresh, q -> q.began(0));
        number("began(0) without a QUARREL at it", 6, q -> {
            textInstead(q, "house a wide 9; house b wide 9; house c wide 9; person p in b temper 0; person r in c;");
            q.say(1, 0);
        }, q -> q.began(0));
        number("widest() without HOUSES", 6, q -> textInstead(q, ""), FootQuarrel::widest);
    }

    /** Another STREET is taken, and the tape is as that of a scene again. */
    private static void textInstead(FootQuarrel q, String street) {
        q.street(0);
        Check.street(q, street);
        Check.feed(q, Scene.PENDING);
    }

    private static void games() {
        for (int turns : new int[] {-1, 5, Integer.MAX_VALUE, Integer.MIN_VALUE}) {
            number("game(0, 1, " + turns + ")", 1, q -> q.game(0, 1, turns));
            number("moveOf(0, 1, " + turns + ")", 1, q -> q.moveOf(0, 1, turns));
        }
        number("moveOf(0, 1, 0)", 1, q -> q.moveOf(0, 1, 0));
    }

    private static void places() {
        for (int tray : NO_TRAYS) {
            placesRefused("TRAY " + tray, 1, AS_IT_IS, tray, 1);
        }
        for (int n : new int[] {-1, 0, 13, Integer.MAX_VALUE, Integer.MIN_VALUE}) {
            placesRefused("n " + n, 1, AS_IT_IS, 0, n);
        }
        placesRefused("a MISSING TRAY", 2, AS_IT_IS, 3, 1);
        placesRefused("a row of no numbers", 3, AS_IT_IS, 2, 1);
        placesRefused("4 of 3 numbers", 3, AS_IT_IS, 0, 4);
        placesRefused("a number below 0", 5, AS_IT_IS, 1, 2);
        number("fewest, no way", 6, q -> q.fewest(0, 2));
    }

    private static void placesRefused(String why, int status, Consumer<FootQuarrel> ahead, int tray, int n) {
        number("ways, " + why, status, ahead, q -> q.ways(tray, n));
        number("fewest, " + why, status, ahead, q -> q.fewest(tray, n));
        number("blame, " + why, status, ahead, q -> q.blame(tray, n));
    }

    private static void rainyDays() {
        for (int wrong : new int[] {-1, 13, Integer.MAX_VALUE, Integer.MIN_VALUE}) {
            truth("wet(" + wrong + ", 0)", 1, q -> q.wet(wrong, 0));
            truth("wet(0, " + wrong + ")", 1, q -> q.wet(0, wrong));
        }
    }

    private static void lives() {
        for (int seed : new int[] {-1, 10000, Integer.MAX_VALUE, Integer.MIN_VALUE}) {
            number("live(" + seed + ")", 1, q -> q.live(seed));
            truth("mean(0, " + seed + ", 1)", 1, q -> q.mean(0, seed, 1));
        }
        for (int what : new int[] {-1, 5, Integer.MAX_VALUE, Integer.MIN_VALUE}) {
            number("lived(" + what + ")", 1, q -> q.lived(what));
        }
        for (int many : new int[] {-1, 0, 21, Integer.MAX_VALUE, Integer.MIN_VALUE}) {
            truth("mean(0, 0, " + many + ")", 1, q -> q.mean(0, 0, many));
        }
        for (int house : NONE_OF_THREE) {
            truth("mean(" + house + ", 0, 1)", 1, q -> q.mean(house, 0, 1));
        }
        truth("mean(0, 9999, 2)", 1, q -> q.mean(0, 9999, 2));
        truth("mean(0, 9981, 20)", 1, q -> q.mean(0, 9981, 20));
        Consumer<FootQuarrel> without = q -> textInstead(q, "house a wide 9;");
        number("live(0) without YEARS", 6, without, q -> q.live(0));
        truth("mean(0, 0, 1) without YEARS", 6, without, q -> q.mean(0, 0, 1));
        FootQuarrel none = new FootQuarrel();
        CHECK.refused(none, "lived(0) without a live()", none.lived(0), 6);
        CHECK.due("that lived(0) changed nothing", Scene.portrait(none).equals(Scene.portrait(new FootQuarrel())), true);
    }

    private static void marks() {
        number("mark(), a fourth", 4, FootQuarrel::mark, FootQuarrel::mark);
        Consumer<FootQuarrel> unmarked = q -> {
            q.undo();
            q.undo();
        };
        number("undo() without a MARK", 6, unmarked, FootQuarrel::undo);
    }
}
