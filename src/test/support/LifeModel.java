import java.util.List;

/** YEARS LIVED once more: each STEP is done by the calls of an object that has the STREET. */
final class LifeModel {
    private final FootQuarrel street;
    private int drawn;
    int done;
    int missed;
    int nights;
    int said;
    int shouts;
    boolean isCutOff;
    private boolean isOver;

    LifeModel(FootQuarrel withStreet, int seed) {
        street = withStreet;
        drawn = seed;
    }

    void live(List<TextModel.Step> steps) {
        for (TextModel.Step step : steps) {
            if (isOver) {
                return;
            }
            if (done == 300) {
                isCutOff = true;
                isOver = true;
                return;
            }
            done++;
            step(step);
        }
    }

    private void step(TextModel.Step step) {
        switch (step.word) {
            case "say" -> say(step.one, step.other);
            case "sorry" -> missed += street.sorry(0) == FootQuarrel.NONE ? 1 : 0;
            case "night" -> {
                if (street.night(step.number) == FootQuarrel.NONE) {
                    missed++;
                } else {
                    nights += step.number;
                }
            }
            case "rain" -> missed += street.rain(true) ? 0 : 1;
            case "dry" -> missed += street.rain(false) ? 0 : 1;
            case "any" -> any();
            case "when" -> {
                if (holds(step)) {
                    live(step.inside);
                }
            }
            case "loop" -> {
                for (int i = 0; i < step.number && !isOver; i++) {
                    live(step.inside);
                }
            }
            default -> isOver = true;
        }
    }

    private void say(int one, int other) {
        int answer = street.say(one, other);
        if (answer == FootQuarrel.NONE) {
            missed++;
        } else {
            said++;
            shouts += answer;
        }
    }

    private void any() {
        int people = street.told(1);
        if (people == 0) {
            missed++;
            return;
        }
        street.rain(draw(16) < street.told(5));
        int one = draw(people);
        say(one, draw(people));
    }

    private int draw(int by) {
        drawn = (int) ((drawn * 3067L + 11287L) % 65536L);
        return drawn / 8 % by;
    }

    private boolean holds(TextModel.Step step) {
        if (step.test.equals("raining")) {
            return street.told(7) == 1;
        }
        int is = step.test.equals("angry") ? street.person(step.one, 5) : street.house(step.one, 0);
        return switch (step.sign) {
            case "<" -> is < step.number;
            case ">" -> is > step.number;
            default -> is == step.number;
        };
    }
}
