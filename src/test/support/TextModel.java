import java.util.ArrayList;
import java.util.List;
import java.util.Set;
import java.util.regex.Matcher;
import java.util.regex.Pattern;

/** STREETS and YEARS as texts, read once more from the document's words alone, in the plainest way. */
final class TextModel {
    private static final Pattern TOKEN = Pattern.compile("[a-z]+|[0-9]+|[;<>=]|[^a-z0-9;<>= \\n]");
    private static final Set<String> NO_NAMES = Set.of("foot", "calm", "odds", "house", "wide", "person", "in", "temper", "hears",
            "voice", "pay", "peace", "say", "sorry", "night", "rain", "dry", "any", "when", "angry", "raining", "loop", "end", "stop");

    /** What can't be taken. */
    static final class Fault extends RuntimeException {
        private static final long serialVersionUID = 1;
        final int kind;
        final int place;

        Fault(int faultKind, int faultPlace) {
            kind = faultKind;
            place = faultPlace;
        }
    }

    record Token(String text, int place) {
    }

    /** A STEP with the STEPS within it. */
    static final class Step {
        String word;
        String test;
        String sign;
        int one;
        int other;
        int number;
        final List<Step> inside = new ArrayList<>();
    }

    final List<String> houses = new ArrayList<>();
    final List<Integer> wides = new ArrayList<>();
    final List<String> people = new ArrayList<>();
    /** Of each PERSON the HOUSE, TEMPER, HEARS, VOICE, PAY. */
    final List<int[]> traits = new ArrayList<>();
    int foot = 1;
    int calm = 2;
    int odds = 4;
    int peace;
    int steps;
    private List<Token> tokens;
    private int next;
    private int end;

    private void begin(String text) {
        tokens = new ArrayList<>();
        Matcher matcher = TOKEN.matcher(text);
        while (matcher.find()) {
            tokens.add(new Token(matcher.group(), matcher.start()));
        }
        next = 0;
        end = text.length();
    }

    private boolean isAtEnd() {
        return next == tokens.size();
    }

    private Token seen() {
        return isAtEnd() ? new Token("", end) : tokens.get(next);
    }

    private static boolean isToken(String text) {
        return text.isEmpty() || text.matches("[a-z]+|[0-9]{1,4}|[;<>=]");
    }

    private Fault fault(int kind) {
        return new Fault(isToken(seen().text()) ? kind : 1, seen().place());
    }

    private void take(String word) {
        if (!seen().text().equals(word)) {
            throw fault(2);
        }
        next++;
    }

    private int takeNumber(int least, int most) {
        if (!seen().text().matches("[0-9]{1,4}")) {
            throw fault(2);
        }
        int number = Integer.parseInt(seen().text());
        if (number < least || number > most) {
            throw fault(4);
        }
        next++;
        return number;
    }

    private String seeName() {
        String name = seen().text();
        if (!name.matches("[a-z]{1,8}") || NO_NAMES.contains(name)) {
            throw fault(2);
        }
        return name;
    }

    private String takeNewName() {
        String name = seeName();
        if (houses.contains(name) || people.contains(name)) {
            throw fault(3);
        }
        next++;
        return name;
    }

    private int takeOld(List<String> names) {
        int found = names.indexOf(seeName());
        if (found < 0) {
            throw fault(3);
        }
        next++;
        return found;
    }

    void street(String text) {
        begin(text);
        Set<String> told = new java.util.HashSet<>();
        while (!isAtEnd()) {
            String word = seen().text();
            switch (word) {
                case "foot", "calm", "odds" -> {
                    if (!told.add(word)) {
                        throw fault(5);
                    }
                    next++;
                    rule(word);
                }
                case "house" -> house();
                case "person" -> person();
                case "peace" -> peace();
                default -> throw fault(2);
            }
            take(";");
        }
    }

    private void rule(String word) {
        switch (word) {
            case "foot" -> foot = takeNumber(1, 9);
            case "calm" -> calm = takeNumber(0, 9);
            default -> odds = takeNumber(0, 16);
        }
    }

    private void house() {
        if (houses.size() == 6) {
            throw fault(6);
        }
        next++;
        String name = takeNewName();
        take("wide");
        wides.add(takeNumber(0, 99));
        houses.add(name);
    }

    private void person() {
        if (people.size() == 8) {
            throw fault(6);
        }
        next++;
        String name = takeNewName();
        take("in");
        int[] row = {takeOld(houses), 10, 5, 5, 0};
        String[] words = {"temper", "hears", "voice", "pay"};
        int[] least = {0, 0, 1, 0};
        int[] most = {30, 9, 9, 99};
        for (int i = 0; i < 4; i++) {
            if (seen().text().equals(words[i])) {
                next++;
                row[i + 1] = takeNumber(least[i], most[i]);
            }
        }
        people.add(name);
        traits.add(row);
    }

    private void peace() {
        next++;
        int one = takeOld(houses);
        int other = houses.indexOf(seeName());
        if (other < 0) {
            throw fault(3);
        }
        if (one - other != 1 && other - one != 1) {
            throw fault(5);
        }
        next++;
        peace |= 1 << Math.min(one, other);
    }

    /** The STEPS of a text for this STREET. */
    List<Step> years(String text) {
        begin(text);
        steps = 0;
        List<Step> all = stepsOf(0);
        if (!isAtEnd()) {
            throw fault(2);
        }
        return all;
    }

    /** STEPS up to an end or to the text's end. */
    private List<Step> stepsOf(int within) {
        List<Step> all = new ArrayList<>();
        while (!isAtEnd() && !seen().text().equals("end")) {
            all.add(step(within));
        }
        return all;
    }

    private Step step(int within) {
        Step made = new Step();
        made.word = seen().text();
        boolean isPart = made.word.equals("when") || made.word.equals("loop");
        if (!isPart && !Set.of("say", "sorry", "night", "rain", "dry", "any", "stop").contains(made.word)) {
            throw fault(2);
        }
        if (steps == 30) {
            throw fault(6);
        }
        if (isPart && within == 3) {
            throw fault(7);
        }
        steps++;
        next++;
        switch (made.word) {
            case "say" -> {
                made.one = takeOld(people);
                made.other = takeOld(people);
            }
            case "night" -> made.number = takeNumber(1, 20);
            case "loop" -> made.number = takeNumber(1, 99);
            case "when" -> test(made);
            default -> { }
        }
        take(";");
        if (isPart) {
            made.inside.addAll(stepsOf(within + 1));
            take("end");
            take(";");
        }
        return made;
    }

    private void test(Step made) {
        made.test = seen().text();
        if (made.test.equals("raining")) {
            next++;
            return;
        }
        if (!made.test.equals("angry") && !made.test.equals("wide")) {
            throw fault(2);
        }
        next++;
        made.one = takeOld(made.test.equals("angry") ? people : houses);
        made.sign = seen().text();
        if (!Set.of("<", ">", "=").contains(made.sign)) {
            throw fault(2);
        }
        next++;
        made.number = takeNumber(0, made.test.equals("angry") ? 99 : 999);
    }
}
