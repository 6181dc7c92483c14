import java.util.Random;

/** STREETS and YEARS by draws: most of them can be taken, and much comes of them. */
final class RandomTexts {
    private final Random draws;
    private final StringBuilder text = new StringBuilder();

    private RandomTexts(Random by) {
        draws = by;
    }

    static String street(Random draws) {
        RandomTexts texts = new RandomTexts(draws);
        texts.makeStreet();
        return texts.ended(900);
    }

    static String years(Random draws) {
        RandomTexts texts = new RandomTexts(draws);
        texts.makeYears();
        return texts.ended(300);
    }

    /** As it is, or seldom with a sign changed or cut short. */
    private String ended(int most) {
        text.setLength(Math.min(most, text.length()));
        if (text.length() > 0 && draws.nextInt(12) == 0) {
            int at = draws.nextInt(text.length());
            switch (draws.nextInt(4)) {
                case 0 -> text.setLength(at);
                case 1 -> text.deleteCharAt(at);
                case 2 -> text.setCharAt(at, (char) draws.nextInt(256));
                default -> text.setCharAt(at, "0123456789;<>= \nafhp".charAt(draws.nextInt(20)));
            }
        }
        return text.toString();
    }

    private int pick(int least, int most) {
        return least + draws.nextInt(most - least + 1);
    }

    private char letter(int most) {
        return (char) ('a' + draws.nextInt(most));
    }

    private void makeStreet() {
        if (draws.nextInt(30) == 0) {
            return;
        }
        text.append("foot ").append(draws.nextBoolean() ? pick(1, 3) : pick(1, 9)).append(";calm ");
        text.append(draws.nextInt(4) == 0 ? 0 : pick(0, 9)).append(";odds ").append(pick(0, 16)).append(";");
        int houses = draws.nextInt(12) == 0 ? pick(0, 7) : pick(2, 6);
        boolean areSmall = draws.nextInt(3) == 0;
        for (int i = 0; i < houses; i++) {
            text.append("house h").append((char) ('a' + i)).append(" wide ").append(areSmall ? pick(0, 3) : pick(0, 99)).append(";");
        }
        int people = houses == 0 ? 0 : draws.nextInt(12) == 0 ? pick(0, 9) : pick(2, 8);
        boolean areTouchy = draws.nextInt(3) > 0;
        for (int i = 0; i < people; i++) {
            text.append("person p").append((char) ('a' + i)).append(" in h").append(letter(houses));
            trait(" temper ", areTouchy ? pick(0, 12) : pick(0, 30));
            trait(" hears ", areTouchy ? pick(3, 9) : pick(0, 9));
            trait(" voice ", areTouchy ? pick(3, 9) : pick(1, 9));
            trait(" pay ", draws.nextBoolean() ? pick(0, 3) : pick(0, 99));
            text.append(";");
        }
        if (houses > 1 && draws.nextInt(4) == 0) {
            int wall = draws.nextInt(houses - 1);
            text.append("peace h").append((char) ('a' + wall)).append(" h").append((char) ('a' + wall + 1)).append(";");
        }
    }

    /** Seldom it isn't told. */
    private void trait(String word, int much) {
        if (draws.nextInt(8) > 0) {
            text.append(word).append(much);
        }
    }

    private void makeYears() {
        String[] steps = {"any;", "any;", "any;", "sorry;", "sorry;", "night 1;", "night 2;", "night 20;", "rain;", "dry;", "say pa pb;",
            "say pb pa;", "say pb pc;", "say pc pb;", "stop;", "loop 2;", "loop 9;", "loop 99;", "when raining;", "when angry pa > 2;",
            "when angry pb < 5;", "when angry pb = 0;", "when wide ha < 9;", "when wide hb = 0;", "when wide hb > 20;", "end;", "end;"};
        int open = 0;
        for (int i = pick(0, 20); i > 0; i--) {
            String step = steps[draws.nextInt(steps.length)];
            boolean ends = step.equals("end;");
            boolean opens = step.startsWith("loop") || step.startsWith("when");
            if (ends && open == 0 || opens && open == 3) {
                continue;
            }
            open += ends ? -1 : opens ? 1 : 0;
            text.append(step);
        }
        text.append("end;".repeat(open));
    }
}
