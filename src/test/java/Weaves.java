/** What the tests of the sentences share: planners to begin with, and questions asked of all there is. */
final class Weaves {
    static final int NONE = LessonWeave.NONE;
    static final int REVISIT = LessonWeave.REVISIT;
    static final int LOW = Integer.MIN_VALUE;
    static final int HIGH = Integer.MAX_VALUE;

    private Weaves() {
    }

    /** Aims of one lesson, one kind, the worth 10 and no kit. */
    static LessonWeave withAims(int many) {
        LessonWeave weave = new LessonWeave();
        for (int k = 0; k < many; k++) {
            weave.aim(1, 0, 10, NONE);
        }
        return weave;
    }

    /** Each aim but the last one needs the next one. */
    static LessonWeave chain(int many) {
        LessonWeave weave = withAims(many);
        for (int k = 0; k + 1 < many; k++) {
            weave.need(k, k + 1);
        }
        return weave;
    }

    static LessonWeave ofLessons(int... lessons) {
        LessonWeave weave = new LessonWeave();
        for (int many : lessons) {
            weave.aim(many, 0, 10, NONE);
        }
        return weave;
    }

    /** Aims of one lesson with these kinds. */
    static LessonWeave ofKinds(int... kinds) {
        LessonWeave weave = new LessonWeave();
        for (int kind : kinds) {
            weave.aim(1, kind, 10, NONE);
        }
        return weave;
    }

    /** Aims of one lesson with these kits. */
    static LessonWeave ofKits(int... kits) {
        LessonWeave weave = new LessonWeave();
        for (int kit : kits) {
            weave.aim(1, 0, 10, kit);
        }
        return weave;
    }

    static void loseAll(LessonWeave weave, int first, int last) {
        for (int day = first; day <= last; day++) {
            weave.lose(day);
        }
    }

    /** What lies on the days from the day 0 on; nothing is due behind them. */
    static void days(LessonWeave weave, int... want) {
        for (int day = 0; day < 100; day++) {
            Checks.equal("on(" + day + ")", weave.on(day), day < want.length ? want[day] : NONE);
        }
    }

    static void order(LessonWeave weave, int... want) {
        Checks.equal("aims()", weave.aims(), want.length);
        for (int place = 0; place < want.length; place++) {
            Checks.equal("ordered(" + place + ")", weave.ordered(place), want[place]);
        }
    }

    static void revisitDays(LessonWeave weave, int aim, int... want) {
        for (int revisit = 0; revisit < want.length; revisit++) {
            Checks.equal("revisitDay(" + aim + ", " + revisit + ")", weave.revisitDay(aim, revisit), want[revisit]);
        }
    }

    /** Integers beside a range, far from it, and such as fall into it if their higher bits are cut off. */
    static int[] beside(int least, int most) {
        return new int[] {least - 1, most + 1, least - 32, most + 32, most + 33, 1000, -1000,
            least + 256, least - 256, least + 65536, least + (1 << 30), LOW + least, LOW + most, LOW, LOW + 1,
            HIGH - 1, HIGH};
    }

    static void badArguments(String call, int[] numbers, java.util.function.IntUnaryOperator answer) {
        for (int number : numbers) {
            Checks.badArgument(call + " of " + number, () -> answer.applyAsInt(number));
        }
    }

    static void allOutside(String call, int[] numbers, java.util.function.IntUnaryOperator answer) {
        for (int number : numbers) {
            Checks.outside(call + " of " + number, () -> answer.applyAsInt(number));
        }
    }

    /** All that can be asked, in 111 calls and ten for each aim. */
    static String state(LessonWeave weave) {
        StringBuilder told = new StringBuilder();
        int aims = weave.aims();
        for (int k = 0; k < aims; k++) {
            told.append(weave.ordered(k)).append(' ').append(weave.allNeeds(k)).append(" :");
            for (int lesson = 0; lesson < 5; lesson++) {
                int asked = lesson;
                int aim = k;
                told.append(' ').append(answer(() -> weave.lessonDay(aim, asked)));
            }
            for (int revisit = 0; revisit < 3; revisit++) {
                int asked = revisit;
                int aim = k;
                told.append(' ').append(answer(() -> weave.revisitDay(aim, asked)));
            }
            told.append('\n');
        }
        for (int day = 0; day < 100; day++) {
            told.append(weave.on(day)).append(' ');
        }
        told.append(weave.laid()).append(' ').append(weave.late()).append(' ').append(weave.lastDay());
        for (int price : new int[] {0, 3, 99}) {
            told.append(' ').append(weave.worthwhile(price)).append(' ').append(weave.bestNet(price));
        }
        return told.append(' ').append(weave.closedSets()).toString();
    }

    private static String answer(java.util.function.IntSupplier call) {
        try {
            return Integer.toString(call.getAsInt());
        } catch (IndexOutOfBoundsException e) {
            return "outside";
        }
    }
}
