import java.util.ArrayList;
import java.util.List;
import java.util.Random;

/**
 * Texts by draws, good ones and spoilt ones, against a second reading of the document (TextModel): the FAULT and its
 * place, or what is told of the STREET, or the YEARS LIVED STEP by STEP by the other calls (LifeModel).
 */
public final class TextModelTest {
    private static final Check CHECK = new Check();
    private static final int STREETS = 12000;
    private static final int YEARS = 12000;
    private static final int LIVES = 2500;
    private static final String[] POOL = {";", "<", ">", "=", "0", "1", "9", "10", "16", "17", "20", "21", "30", "31", "99", "100", "999",
        "1000", "9999", "10000", "0009", "00009", "foot", "calm", "odds", "house", "wide", "person", "in", "temper", "hears", "voice",
        "pay", "peace", "say", "sorry", "night", "rain", "dry", "any", "when", "angry", "raining", "loop", "end", "stop", "ha", "hb", "hc",
        "hf", "hg", "pa", "pb", "ph", "pi", "zz", "abcdefgh", "abcdefghi", "$", "A", "\t"};
    private static Random draws;

    public static void main(String[] args) {
        for (int run = 0; run < STREETS; run++) {
            draws = new Random(run);
            street(spoilt(streetTokens(false)));
        }
        for (int run = 0; run < YEARS; run++) {
            draws = new Random(1000000 + run);
            years(spoilt(yearsTokens(pick(0, 12))));
        }
        for (int run = 0; run < LIVES; run++) {
            draws = new Random(2000000 + run);
            life();
        }
        CHECK.finish();
    }

    private static int pick(int least, int most) {
        return least + draws.nextInt(most - least + 1);
    }

    private static void add(List<String> tokens, String words) {
        for (String word : words.split(" ")) {
            tokens.add(word);
        }
    }

    private static String name(char kind, int most) {
        return "" + kind + (char) ('a' + draws.nextInt(most));
    }

    /** PARTS of a STREET, mostly good ones; its PEOPLE are soon angry, or of all kinds. */
    private static List<String> streetTokens(boolean angry) {
        List<String> tokens = new ArrayList<>();
        String[] rules = {"foot " + pick(1, 9), "calm " + pick(0, 9), "odds " + pick(0, 16)};
        for (String rule : rules) {
            if (draws.nextBoolean()) {
                add(tokens, rule + " ;");
            }
        }
        int houses = draws.nextInt(8) == 0 ? pick(0, 7) : pick(2, 6);
        for (int i = 0; i < houses; i++) {
            add(tokens, "house h" + (char) ('a' + i) + " wide " + pick(0, 99) + " ;");
        }
        int people = draws.nextInt(8) == 0 ? pick(0, 9) : pick(1, 5);
        for (int i = 0; i < people; i++) {
            add(tokens, "person p" + (char) ('a' + i) + " in " + name('h', Math.max(1, houses)));
            String[] traits = {"temper " + pick(0, angry ? 9 : 30), "hears " + pick(angry ? 4 : 0, 9), "voice " + pick(angry ? 4 : 1, 9),
                "pay " + pick(0, 99)};
            for (String trait : traits) {
                if (angry || draws.nextBoolean()) {
                    add(tokens, trait);
                }
            }
            add(tokens, ";");
        }
        for (int i = draws.nextInt(3); i > 0 && houses > 1; i--) {
            int wall = draws.nextInt(houses - 1);
            boolean back = draws.nextBoolean();
            add(tokens, "peace h" + (char) ('a' + wall + (back ? 1 : 0)) + " h" + (char) ('a' + wall + (back ? 0 : 1)) + " ;");
        }
        return tokens;
    }

    /** STEPS of YEARS that are good, but for NAMES that may be no one's and for too many of them. */
    private static List<String> yearsTokens(int many) {
        List<String> tokens = new ArrayList<>();
        int open = 0;
        for (int i = 0; i < many; i++) {
            String[] steps = {"any", "any", "any", "say " + name('p', 3) + " " + name('p', 3), "say " + name('p', 3) + " " + name('p', 3),
                "sorry", "sorry", "night " + pick(1, 20), "night 1", "rain", "dry", "stop", "loop " + pick(1, 9), "loop " + pick(2, 99),
                "when raining", "when angry " + name('p', 3) + " " + "<>=".charAt(draws.nextInt(3)) + " " + pick(0, 12),
                "when wide " + name('h', 3) + " " + "<>=".charAt(draws.nextInt(3)) + " " + pick(0, 60), "end", "end", "end"};
            String step = steps[draws.nextInt(steps.length)];
            boolean ends = step.equals("end");
            boolean opens = step.startsWith("loop") || step.startsWith("when");
            if (ends && open == 0 || opens && open == 3 && draws.nextInt(10) > 0) {
                continue;
            }
            open += ends ? -1 : opens ? 1 : 0;
            add(tokens, step + " ;");
        }
        for (int i = 0; i < open; i++) {
            add(tokens, "end ;");
        }
        return tokens;
    }

    /** The first NUMBER from there on becomes one that may be too great or too small. */
    private static void numberInstead(List<String> tokens, int from) {
        for (int i = from; i < tokens.size(); i++) {
            if (Character.isDigit(tokens.get(i).charAt(0))) {
                tokens.set(i, String.valueOf(new int[] {0, 1, 9, 10, 16, 17, 20, 21, 30, 31, 99, 100, 999, 1000, 9999, 10000}[draws.nextInt(16)]));
                return;
            }
        }
    }

    /** The first NAME from there on becomes another one. */
    private static void nameInstead(List<String> tokens, int from) {
        for (int i = from; i < tokens.size(); i++) {
            if (tokens.get(i).matches("[hp][a-i]")) {
                tokens.set(i, name("hp".charAt(draws.nextInt(2)), 7));
                return;
            }
        }
    }

    /** What stands between two ; comes once more behind them all, or several times. */
    private static void partAgain(List<String> tokens, int at) {
        int from = at;
        while (from > 0 && !tokens.get(from - 1).equals(";")) {
            from--;
        }
        int to = at;
        while (to < tokens.size() && !tokens.get(to).equals(";")) {
            to++;
        }
        List<String> part = new ArrayList<>(tokens.subList(from, Math.min(to + 1, tokens.size())));
        for (int i = draws.nextInt(3) == 0 ? 30 : 1; i > 0; i--) {
            tokens.addAll(part);
        }
    }

    /** The TOKENS as a text, as they are or with some of them changed, with any blanks that there can be. */
    private static String spoilt(List<String> tokens) {
        for (int i = draws.nextInt(3); i > 0 && !tokens.isEmpty(); i--) {
            int at = draws.nextInt(tokens.size());
            switch (draws.nextInt(12)) {
                case 0 -> tokens.remove(at);
                case 1 -> tokens.add(at, POOL[draws.nextInt(POOL.length)]);
                case 2 -> tokens.set(at, POOL[draws.nextInt(POOL.length)]);
                case 3 -> tokens.add(at, tokens.get(draws.nextInt(tokens.size())));
                case 4 -> tokens.subList(at, tokens.size()).clear();
                case 5, 6, 7 -> numberInstead(tokens, at);
                case 8, 9 -> nameInstead(tokens, at);
                default -> partAgain(tokens, at);
            }
        }
        StringBuilder text = new StringBuilder();
        String[] blanks = {" ", " ", " ", "\n", "  "};
        for (String token : tokens) {
            boolean sign = text.length() > 0 && ";<>=".indexOf(text.charAt(text.length() - 1)) >= 0 || ";<>=".contains(token);
            if (text.length() > 0 && !(sign && draws.nextBoolean()) && draws.nextInt(60) > 0) {
                text.append(blanks[draws.nextInt(blanks.length)]);
            }
            text.append(token);
        }
        if (draws.nextInt(12) == 0 && text.length() > 0) {
            text.setCharAt(draws.nextInt(text.length()), (char) draws.nextInt(256));
        }
        return text.toString();
    }

    private static void street(String text) {
        if (text.length() > 900) {
            return;
        }
        FootQuarrel q = new FootQuarrel();
        TextModel model = new TextModel();
        try {
            model.street(text);
        } catch (TextModel.Fault fault) {
            refused(q, text, Check.street(q, text), fault);
            return;
        }
        CHECK.fine(q, "street: " + text, Check.street(q, text), model.people.size());
        CHECK.due("fault(0) of " + text, q.fault(0), 0);
        int[] told = {model.houses.size(), model.people.size(), 0, model.foot, model.calm, model.odds, 0, 0, 0, model.peace};
        for (int what = 0; what < told.length; what++) {
            CHECK.due("told(" + what + ") of " + text, q.told(what), told[what]);
        }
        for (int house = 0; house < model.houses.size(); house++) {
            CHECK.due("house(" + house + ", 0) of " + text, q.house(house, 0), model.wides.get(house));
            CHECK.due("house(" + house + ", 1) of " + text, q.house(house, 1), model.wides.get(house));
        }
        for (int person = 0; person < model.people.size(); person++) {
            for (int what = 0; what < 5; what++) {
                CHECK.due("person(" + person + ", " + what + ") of " + text, q.person(person, what), model.traits.get(person)[what]);
            }
        }
    }

    private static void refused(FootQuarrel q, String text, long got, TextModel.Fault fault) {
        CHECK.refused(q, text, got, 9);
        CHECK.due("fault(0) of " + text, q.fault(0), fault.kind);
        CHECK.due("fault(1) of " + text, q.fault(1), fault.place);
    }

    private static final String YEARS_ROW = "house ha wide 9;house hb wide 8;house hc wide 7;person pa in ha;person pb in hb;person pc in hc;";

    private static void years(String text) {
        if (text.length() > 300) {
            return;
        }
        FootQuarrel q = Check.withStreet(YEARS_ROW);
        TextModel model = new TextModel();
        model.street(YEARS_ROW);
        try {
            model.years(text);
        } catch (TextModel.Fault fault) {
            refused(q, text, Check.years(q, text), fault);
            return;
        }
        CHECK.fine(q, "years: " + text, Check.years(q, text), model.steps);
        CHECK.due("fault(0) of " + text, q.fault(0), 0);
        CHECK.due("fault(1) of " + text, q.fault(1), -1);
    }

    private static void life() {
        String row = String.join(" ", streetTokens(true));
        TextModel model = new TextModel();
        List<TextModel.Step> steps;
        String text = String.join(" ", yearsTokens(pick(1, 25)));
        try {
            model.street(row);
            steps = model.years(text);
        } catch (TextModel.Fault fault) {
            return;
        }
        if (row.length() > 900 || text.length() > 300) {
            return;
        }
        FootQuarrel lived = Check.withStreet(row);
        FootQuarrel done = Check.withStreet(row);
        Check.years(lived, text);
        int seed = draws.nextInt(10000);
        String what = " by " + seed + " of " + text + " in " + row;
        LifeModel life = new LifeModel(done, seed);
        life.live(steps);
        CHECK.fine(lived, "live" + what, lived.live(seed), life.done);
        int[] want = {life.missed, life.nights, life.said, life.shouts, life.isCutOff ? 1 : 0};
        for (int i = 0; i < want.length; i++) {
            CHECK.fine(lived, "lived(" + i + ")" + what, lived.lived(i), want[i]);
        }
        CHECK.due("as the STEPS were done one by one" + what, Scene.state(lived).equals(Scene.state(done)), true);
    }
}
