import java.util.Random;
import java.util.function.IntSupplier;

/**
 * Promises 1 to 18 in long runs of mixed calls, good and wrong ones, against the model: each answer
 * and each exception is compared, and at the end of a run all that can be asked. The runs are the same
 * each time, and no object has more than 512 calls.
 */
public final class RandomRunsTest {
    private static final int RUNS = 1500;
    private static final int MOST_CALLS = 512;

    private final LessonWeave weave = new LessonWeave();
    private final Model model = new Model();
    private final Random random;
    private final int run;
    private final StringBuilder told = new StringBuilder();
    private int calls = 0;

    private RandomRunsTest(int run) {
        this.run = run;
        this.random = new Random(7919L * run + 1);
    }

    public static void main(String[] args) {
        for (int run = 0; run < RUNS; run++) {
            RandomRunsTest one = new RandomRunsTest(run);
            one.change();
            one.askAll();
        }
        Checks.end();
    }

    private void change() {
        int aims = random.nextInt(13);
        int kinds = 1 + random.nextInt(4);
        int kits = random.nextInt(4);
        for (int k = 0; k < aims; k++) {
            aim(1 + random.nextInt(5), random.nextInt(kinds), 1 + random.nextInt(99), random.nextInt(kits + 1) - 1);
        }
        int steps = random.nextInt(60);
        int losing = random.nextInt(10);
        for (int k = 0; k < steps; k++) {
            if (random.nextInt(10) < losing) {
                lose(aDay());
            } else {
                step();
            }
        }
    }

    private void step() {
        switch (random.nextInt(16)) {
            case 0 -> aim(near(1, 5), near(0, 3), near(1, 99), near(-1, 2));
            case 1, 2, 3, 4, 5 -> need(anAim(), anAim());
            case 6, 7 -> free(anAim(), anAim());
            case 8, 9, 10 -> revisits(anAim(), near(0, 3), near(1, 20));
            case 11 -> revisits(anAim(), near(1, 3), 1 + random.nextInt(4));
            case 12 -> lose(aDay());
            case 13 -> ask("late()", weave::late, model::late);
            case 14 -> askPrice(near(0, 99));
            default -> askDay(aDay());
        }
    }

    /** Mostly within the range, now and then just beside it or far off. */
    private int near(int least, int most) {
        int far = random.nextInt(200);
        if (far == 0) {
            return Integer.MIN_VALUE;
        }
        if (far == 1) {
            return Integer.MAX_VALUE;
        }
        int wide = far < 20 ? 1 : 0;
        return least - wide + random.nextInt(most - least + 1 + 2 * wide);
    }

    private int anAim() {
        return near(0, Math.max(0, model.aims() - 1));
    }

    private int aDay() {
        return random.nextInt(3) == 0 ? near(0, 99) : near(0, 40);
    }

    private void askAll() {
        ask("aims()", weave::aims, model::aims);
        ask("laid()", weave::laid, model::laid);
        ask("late()", weave::late, model::late);
        ask("lastDay()", weave::lastDay, model::lastDay);
        ask("closedSets()", weave::closedSets, model::closedSets);
        askPrice(-1);
        askPrice(0);
        askPrice(near(1, 30));
        askPrice(100);
        for (int day = -1; day <= 100; day++) {
            askDay(day);
        }
        for (int k = -1; k <= model.aims(); k++) {
            askAim(k);
        }
        Checks.holds("no more than 512 calls, " + calls, calls <= MOST_CALLS);
    }

    private void askAim(int k) {
        ask("allNeeds(" + k + ")", () -> weave.allNeeds(k), () -> model.allNeeds(k));
        ask("ordered(" + k + ")", () -> weave.ordered(k), () -> model.ordered(k));
        for (int row = -1; row <= 5; row++) {
            int one = row;
            ask("lessonDay(" + k + ", " + row + ")", () -> weave.lessonDay(k, one), () -> model.lessonDay(k, one));
        }
        for (int row = -1; row <= 3; row++) {
            int one = row;
            ask("revisitDay(" + k + ", " + row + ")", () -> weave.revisitDay(k, one), () -> model.revisitDay(k, one));
        }
    }

    private void askDay(int day) {
        ask("on(" + day + ")", () -> weave.on(day), () -> model.on(day));
    }

    private void askPrice(int price) {
        ask("worthwhile(" + price + ")", () -> weave.worthwhile(price), () -> model.worthwhile(price));
        ask("bestNet(" + price + ")", () -> weave.bestNet(price), () -> model.bestNet(price));
    }

    private void aim(int lessons, int kind, int worth, int kit) {
        ask("aim(" + lessons + ", " + kind + ", " + worth + ", " + kit + ")",
            () -> weave.aim(lessons, kind, worth, kit), () -> model.aim(lessons, kind, worth, kit));
    }

    private void need(int aim, int other) {
        ask("need(" + aim + ", " + other + ")", () -> weave.need(aim, other), () -> model.need(aim, other));
    }

    private void free(int aim, int other) {
        ask("free(" + aim + ", " + other + ")", () -> weave.free(aim, other), () -> model.free(aim, other));
    }

    private void revisits(int aim, int many, int gap) {
        ask("revisits(" + aim + ", " + many + ", " + gap + ")",
            () -> weave.revisits(aim, many, gap), () -> model.revisits(aim, many, gap));
    }

    private void lose(int day) {
        ask("lose(" + day + ")", () -> weave.lose(day), () -> model.lose(day));
    }

    private void ask(String call, IntSupplier got, IntSupplier want) {
        calls++;
        String answer = answer(got);
        String due = answer(want);
        told.append(' ').append(call);
        Checks.holds("run " + run + ":" + (answer.equals(due) ? "" : told) + " answered " + answer + ", due is " + due,
            answer.equals(due));
    }

    private static String answer(IntSupplier call) {
        try {
            return Integer.toString(call.getAsInt());
        } catch (RuntimeException e) {
            return e.getClass().getName();
        }
    }
}
