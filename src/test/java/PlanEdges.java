/** The sentences of the promises 9 to 15: what lies on the days. */
final class PlanEdges {
    private static final int NONE = Weaves.NONE;
    private static final int REVISIT = Weaves.REVISIT;

    private PlanEdges() {
    }

    static void run() {
        lose();
        on();
        lessonDay();
        revisitDay();
        Sentences.test("Promise 13", "Returns how many lessons and revisits are laid.",
            PlanEdges::nothingIsLaid, PlanEdges::allIsLaid, PlanEdges::moreThanThereAreDays);
        Sentences.test("Promise 14",
            "Returns how many of the revisits that are laid lie on a day on which they are late.",
            PlanEdges::noneIsLate, PlanEdges::lateFromTheDayOn, PlanEdges::lateButNotLaid, PlanEdges::allAreLate);
        Sentences.test("Promise 15", "Returns the last day on which something lies; NONE if nothing is laid.",
            PlanEdges::noLastDay, PlanEdges::firstDayIsTheLast, PlanEdges::lastDayOfAll,
            PlanEdges::lastDayBehindDaysOfNothing);
    }

    // ---- promise 9

    private static void lose() {
        Sentences.test("Promise 9", "Loses a day.", PlanEdges::losesTheDayAlone, PlanEdges::staysLost);
        Sentences.test("Promise 9", "- `day`: 0 to 99", () -> {
            LessonWeave weave = Weaves.withAims(1);
            for (int day = 0; day < 100; day++) {
                Checks.equal("lose(" + day + ")", weave.lose(day), 1);
            }
            Weaves.allOutside("lose", Weaves.beside(0, 99), weave::lose);
        });
        Sentences.test("Promise 9",
            "Returns how many of the lessons and revisits that were laid lie on another day by that, or are not laid "
                + "any more.",
            PlanEdges::nothingMoves, PlanEdges::allMove, PlanEdges::revisitsThatStay, PlanEdges::lessonsThatStay,
            PlanEdges::notLaidAnyMore, PlanEdges::notLaidBefore, PlanEdges::laidNewly, PlanEdges::placesChange);
        Sentences.test("Promise 9", "Throws `IndexOutOfBoundsException` if there is no such day", () -> {
            LessonWeave weave = Weaves.withAims(1);
            Weaves.allOutside("lose", Weaves.beside(0, 99), weave::lose);
            Weaves.loseAll(weave, 0, 99);
            Weaves.allOutside("lose, when all days are lost", Weaves.beside(0, 99), weave::lose);
        });
        Sentences.test("Promise 9", "Throws `IllegalStateException` if it is lost already", () -> {
            LessonWeave weave = Weaves.withAims(1);
            for (int day : new int[] {0, 1, 50, 98, 99}) {
                weave.lose(day);
                Checks.badState("lose(" + day + ") again", () -> weave.lose(day));
            }
            Checks.equal("a day between", weave.lose(49), 0);
            weave.aim(1, 0, 1, NONE);
            Checks.badState("behind other calls", () -> weave.lose(0));
        });
    }

    private static void losesTheDayAlone() {
        LessonWeave weave = Weaves.ofLessons(5);
        weave.lose(0);
        weave.lose(4);
        Weaves.days(weave, NONE, 0, 0, 0, NONE, 0, 0);
    }

    private static void staysLost() {
        LessonWeave weave = new LessonWeave();
        weave.lose(0);
        weave.lose(2);
        weave.aim(1, 0, 1, NONE);
        weave.aim(2, 0, 1, NONE);
        Weaves.days(weave, NONE, 0, NONE, 1, 1);
        weave.need(0, 1);
        Weaves.days(weave, NONE, 1, NONE, 1, 0);
        weave.free(0, 1);
        weave.revisits(0, 1, 1);
        Weaves.days(weave, NONE, 0, NONE, REVISIT, 1, 1);
    }

    private static void nothingMoves() {
        LessonWeave weave = Weaves.ofLessons(2);
        Checks.equal("the day behind the last lesson", weave.lose(2), 0);
        Checks.equal("the last day", weave.lose(99), 0);
        weave.revisits(0, 1, 10);
        Checks.equal("a day ahead of a revisit", weave.lose(10), 0);
        Checks.equal("a day behind it", weave.lose(12), 0);
        Checks.equal("without aims", new LessonWeave().lose(0), 0);
    }

    private static void allMove() {
        LessonWeave weave = Weaves.ofLessons(5, 5, 5, 5, 5, 5, 5, 5, 5, 5, 5, 5);
        Checks.equal("all lessons", weave.lose(0), 60);
        Checks.equal("the last one", weave.lose(60), 1);
        Checks.equal("all but the first one", weave.lose(2), 59);
        LessonWeave one = Weaves.withAims(1);
        one.revisits(0, 3, 3);
        Checks.equal("the lesson and all revisits", one.lose(0), 4);
        Checks.equal("the last revisit", one.lose(22), 1);
        LessonWeave other = Weaves.withAims(1);
        other.revisits(0, 3, 3);
        Checks.equal("the last two revisits", other.lose(9), 2);
        LessonWeave third = Weaves.withAims(1);
        third.revisits(0, 3, 3);
        Checks.equal("all three revisits", third.lose(3), 3);
    }

    private static void revisitsThatStay() {
        LessonWeave weave = Weaves.withAims(1);
        weave.revisits(0, 1, 4);
        weave.lose(4);
        Checks.equal("the lesson alone: the revisit lies where it is due now", weave.lose(0), 1);
        Weaves.days(weave, NONE, 0, NONE, NONE, NONE, REVISIT);
        LessonWeave three = Weaves.withAims(1);
        three.revisits(0, 3, 3);
        three.lose(9);
        Checks.equal("the first one alone: the second one lies where it is due now", three.lose(3), 1);
        Weaves.revisitDays(three, 0, 4, 10, 22);
    }

    private static void lessonsThatStay() {
        LessonWeave weave = Weaves.ofKits(1, 1, NONE);
        Checks.equal("a day held up by a kit", weave.lose(1), 0);
        Checks.equal("the other one", weave.lose(2), 0);
        Checks.equal("the first lesson: the others are held up anew", weave.lose(0), 3);
        Weaves.days(weave, NONE, NONE, NONE, 0, NONE, NONE, 1, 2);
    }

    private static void notLaidAnyMore() {
        LessonWeave weave = Weaves.ofLessons(2);
        weave.revisits(0, 1, 1);
        Weaves.loseAll(weave, 0, 96);
        Checks.equal("laid()", weave.laid(), 3);
        Checks.equal("two lie on another day, one does not any more", weave.lose(97), 3);
        Checks.equal("one does not any more", weave.lose(99), 1);
        Checks.equal("the last one", weave.lose(98), 1);
        Checks.equal("laid()", weave.laid(), 0);
    }

    private static void notLaidBefore() {
        LessonWeave weave = Weaves.ofLessons(5, 5);
        weave.revisits(0, 3, 20);
        Weaves.loseAll(weave, 0, 98);
        Checks.equal("one of ten lessons was laid", weave.lose(99), 1);
    }

    /** The aim 2 waits for a kit on the day that the aim 1 moves to, so only the aim 1 and its revisit move. */
    private static void laidNewly() {
        LessonWeave weave = new LessonWeave();
        weave.aim(1, 0, 1, 0);
        weave.aim(1, 0, 1, NONE);
        weave.aim(5, 0, 1, 0);
        for (int k = 3; k < 6; k++) {
            weave.aim(5, 0, 1, NONE);
        }
        weave.revisits(1, 1, 20);
        Weaves.loseAll(weave, 0, 77);
        Checks.equal("the revisit", weave.on(99), REVISIT + 1);
        Checks.equal("a lesson that is not laid", weave.lessonDay(5, 3), NONE);
        int laid = weave.laid();
        Checks.equal("the aim 1 and its revisit", weave.lose(79), 2);
        Checks.equal("the lesson is laid newly", weave.lessonDay(5, 3), 99);
        Checks.equal("as many as before", weave.laid(), laid);
    }

    private static void placesChange() {
        LessonWeave weave = Weaves.withAims(2);
        weave.revisits(0, 1, 10);
        weave.revisits(1, 1, 8);
        Weaves.days(weave, 0, 1, NONE, NONE, NONE, NONE, NONE, NONE, NONE, REVISIT + 1, REVISIT);
        Checks.equal("one goes behind the other", weave.lose(9), 2);
        Weaves.days(weave, 0, 1, NONE, NONE, NONE, NONE, NONE, NONE, NONE, NONE, REVISIT + 1, REVISIT);
    }

    // ---- promise 10

    private static void on() {
        Sentences.test("Promise 10", "Returns what lies on a day.", () -> {
            LessonWeave weave = Weaves.ofLessons(1, 2);
            weave.revisits(0, 1, 1);
            Weaves.days(weave, 0, REVISIT, 1, 1);
            weave.lose(0);
            Weaves.days(weave, NONE, 0, REVISIT, 1, 1);
        });
        Sentences.test("Promise 10", "- `day`: 0 to 99", () -> {
            LessonWeave weave = Weaves.withAims(1);
            for (int day = 0; day < 99; day++) {
                Checks.equal("on(" + day + ")", weave.on(day), 0);
                weave.lose(day);
            }
            Checks.equal("on(99)", weave.on(99), 0);
            Weaves.allOutside("on", Weaves.beside(0, 99), weave::on);
        });
        Sentences.test("Promise 10",
            "Returns the aim for a lesson; REVISIT and the aim together for a revisit; NONE for nothing.", () -> {
            LessonWeave weave = Weaves.withAims(12);
            for (int k = 0; k < 12; k++) {
                weave.revisits(k, 3, 12);
            }
            weave.lose(99);
            for (int k = 0; k < 12; k++) {
                Checks.equal("a lesson", weave.on(k), k);
                Checks.equal("the first revisit", weave.on(12 + k), REVISIT + k);
                Checks.equal("nothing", weave.on(24 + k), NONE);
                Checks.equal("the second revisit", weave.on(36 + k), REVISIT + k);
                Checks.equal("the third revisit", weave.on(84 + k), REVISIT + k);
            }
            Checks.equal("nothing on the last day but one", weave.on(98), NONE);
            Checks.equal("nothing on a lost day", weave.on(99), NONE);
        });
        Sentences.test("Promise 10", "Throws `IndexOutOfBoundsException` if there is no such day", () -> {
            LessonWeave none = new LessonWeave();
            Weaves.allOutside("on, without aims", Weaves.beside(0, 99), none::on);
            LessonWeave weave = Weaves.ofLessons(5);
            Weaves.loseAll(weave, 0, 97);
            Weaves.allOutside("on, beyond the last lesson laid", Weaves.beside(0, 99), weave::on);
            Checks.equal("a lost day is one", weave.on(0), NONE);
        });
    }

    // ---- promise 11

    private static void lessonDay() {
        Sentences.test("Promise 11", "Returns the day of a lesson.", () -> {
            LessonWeave weave = Weaves.ofLessons(5, 5, 5, 5, 5, 5, 5, 5, 5, 5, 5, 5);
            for (int k = 0; k < 12; k++) {
                for (int lesson = 0; lesson < 5; lesson++) {
                    Checks.equal("lessonDay(" + k + ", " + lesson + ")", weave.lessonDay(k, lesson), 5 * k + lesson);
                }
            }
        });
        Sentences.test("Promise 11", "- `lesson`: 0 for its first lesson", () -> {
            LessonWeave weave = Weaves.ofLessons(5, 1);
            weave.lose(0);
            weave.lose(2);
            Checks.equal("the first one", weave.lessonDay(0, 0), 1);
            Checks.equal("the second one", weave.lessonDay(0, 1), 3);
            Checks.equal("the last one", weave.lessonDay(0, 4), 6);
            Checks.equal("the first one of the next aim", weave.lessonDay(1, 0), 7);
            Checks.outside("ahead of it", () -> weave.lessonDay(1, -1));
        });
        Sentences.test("Promise 11", "Returns the day; NONE if it is not laid.", () -> {
            LessonWeave weave = Weaves.ofLessons(3, 1);
            Weaves.loseAll(weave, 0, 97);
            Checks.equal("the last day but one", weave.lessonDay(0, 0), 98);
            Checks.equal("the last day", weave.lessonDay(0, 1), 99);
            Checks.equal("not laid", weave.lessonDay(0, 2), NONE);
            Checks.equal("none of its aim is laid", weave.lessonDay(1, 0), NONE);
            weave.need(0, 1);
            Checks.equal("laid now", weave.lessonDay(1, 0), 98);
            Checks.equal("not laid now", weave.lessonDay(0, 1), NONE);
        });
        Sentences.test("Promise 11",
            "Throws `IndexOutOfBoundsException` if there is no such aim, or it has no such lesson", () -> {
            for (int many = 0; many <= 12; many += 4) {
                LessonWeave weave = Weaves.withAims(many);
                Weaves.allOutside("lessonDay(.., 0)", Weaves.beside(0, many - 1), k -> weave.lessonDay(k, 0));
            }
            for (int lessons = 1; lessons <= 5; lessons++) {
                LessonWeave weave = Weaves.ofLessons(lessons, 5);
                Weaves.allOutside("lessonDay(0, ..) of " + lessons, Weaves.beside(0, lessons - 1),
                    lesson -> weave.lessonDay(0, lesson));
                Weaves.loseAll(weave, 0, 99);
                Checks.equal("a lesson that is not laid is one", weave.lessonDay(0, lessons - 1), NONE);
                Weaves.allOutside("lessonDay(0, ..), not laid", Weaves.beside(0, lessons - 1),
                    lesson -> weave.lessonDay(0, lesson));
            }
            LessonWeave two = Weaves.ofLessons(5, 1);
            Checks.outside("as many as the other aim has", () -> two.lessonDay(1, 4));
            Checks.outside("the lesson of the next aim", () -> two.lessonDay(0, 5));
            Checks.outside("the lesson of the aim ahead", () -> two.lessonDay(1, -1));
        });
    }

    // ---- promise 12

    private static void revisitDay() {
        Sentences.test("Promise 12", "Returns the day of a revisit.", () -> {
            LessonWeave weave = Weaves.withAims(12);
            for (int k = 0; k < 12; k++) {
                weave.revisits(k, 3, 12);
            }
            for (int k = 0; k < 12; k++) {
                Weaves.revisitDays(weave, k, 12 + k, 36 + k, 84 + k);
            }
        });
        Sentences.test("Promise 12", "- `revisit`: 0 for the first revisit", () -> {
            LessonWeave weave = Weaves.ofLessons(2, 1);
            weave.revisits(0, 3, 2);
            weave.revisits(1, 1, 20);
            Checks.equal("the first one", weave.revisitDay(0, 0), 3);
            Checks.equal("the last one", weave.revisitDay(0, 2), 3 + 4 + 8);
            Checks.equal("the first one of the next aim", weave.revisitDay(1, 0), 22);
            Checks.outside("ahead of it", () -> weave.revisitDay(1, -1));
        });
        Sentences.test("Promise 12", "Returns the day; NONE if it is not laid.", () -> {
            LessonWeave weave = Weaves.withAims(1);
            weave.revisits(0, 3, 14);
            Weaves.revisitDays(weave, 0, 14, 42, 98);
            weave.lose(0);
            Weaves.revisitDays(weave, 0, 15, 43, 99);
            weave.lose(1);
            Weaves.revisitDays(weave, 0, 16, 44, NONE);
            Weaves.loseAll(weave, 16, 79);
            Weaves.revisitDays(weave, 0, 80, NONE, NONE);
            Weaves.loseAll(weave, 80, 99);
            Weaves.revisitDays(weave, 0, NONE, NONE, NONE);
        });
        Sentences.test("Promise 12",
            "Throws `IndexOutOfBoundsException` if there is no such aim, or it has no such revisit", () -> {
            for (int many = 0; many <= 12; many += 4) {
                LessonWeave weave = Weaves.withAims(many);
                for (int k = 0; k < many; k++) {
                    weave.revisits(k, 3, 1);
                }
                Weaves.allOutside("revisitDay(.., 0)", Weaves.beside(0, many - 1), k -> weave.revisitDay(k, 0));
            }
            for (int revisits = 0; revisits <= 3; revisits++) {
                LessonWeave weave = Weaves.withAims(2);
                weave.revisits(0, 3, 1);
                weave.revisits(0, revisits, 1);
                weave.revisits(1, 3, 1);
                Weaves.allOutside("revisitDay(0, ..) of " + revisits, Weaves.beside(0, revisits - 1),
                    revisit -> weave.revisitDay(0, revisit));
                Weaves.loseAll(weave, 0, 99);
                Weaves.allOutside("revisitDay(0, ..), not laid", Weaves.beside(0, revisits - 1),
                    revisit -> weave.revisitDay(0, revisit));
                if (revisits > 0) {
                    Checks.equal("one that is not laid is one", weave.revisitDay(0, revisits - 1), NONE);
                }
            }
        });
    }

    // ---- promise 13

    private static void nothingIsLaid() {
        LessonWeave weave = new LessonWeave();
        Checks.equal("without aims", weave.laid(), 0);
        Weaves.loseAll(weave, 0, 99);
        weave.aim(5, 0, 1, NONE);
        weave.revisits(0, 3, 1);
        Checks.equal("without days", weave.laid(), 0);
    }

    private static void allIsLaid() {
        LessonWeave weave = Weaves.ofLessons(5, 5, 5, 5, 5, 5, 5, 5, 5, 5, 5, 5);
        Checks.equal("all lessons", weave.laid(), 60);
        for (int k = 0; k < 12; k++) {
            weave.revisits(k, 3, 1);
        }
        Checks.equal("all lessons and revisits", weave.laid(), 96);
    }

    private static void moreThanThereAreDays() {
        LessonWeave weave = Weaves.ofLessons(5, 5, 5, 5, 5, 5, 5, 5, 5, 5, 5, 5);
        for (int day = 0; day < 100; day++) {
            weave.lose(day);
            Checks.equal("as many as days are left, or as lessons", weave.laid(), Math.min(60, 99 - day));
        }
    }

    // ---- promise 14

    private static void noneIsLate() {
        Checks.equal("without aims", new LessonWeave().late(), 0);
        LessonWeave weave = Weaves.withAims(12);
        Checks.equal("without revisits", weave.late(), 0);
        for (int k = 0; k < 12; k++) {
            weave.revisits(k, 3, 12);
        }
        Checks.equal("all on the day on which they are due", weave.late(), 0);
    }

    private static void lateFromTheDayOn() {
        for (int gap = 1; gap <= 20; gap++) {
            LessonWeave weave = Weaves.withAims(1);
            weave.revisits(0, 1, gap);
            Weaves.loseAll(weave, gap, 2 * gap - 2);
            Checks.equal("the gap " + gap + ", its day", weave.revisitDay(0, 0), Math.max(gap, 2 * gap - 1));
            Checks.equal("the day ahead", weave.late(), 0);
            weave.lose(2 * gap - 1);
            Checks.equal("the gap " + gap + ", its day", weave.revisitDay(0, 0), 2 * gap);
            Checks.equal("the first late day", weave.late(), 1);
            weave.lose(2 * gap);
            Checks.equal("the day behind", weave.late(), 1);
        }
    }

    private static void lateButNotLaid() {
        LessonWeave weave = Weaves.withAims(2);
        weave.revisits(0, 1, 2);
        weave.revisits(1, 1, 2);
        Weaves.loseAll(weave, 2, 97);
        Checks.equal("both are laid", weave.late(), 2);
        weave.lose(98);
        Checks.equal("one is laid", weave.late(), 1);
        weave.lose(99);
        Checks.equal("none is laid", weave.late(), 0);
    }

    private static void allAreLate() {
        LessonWeave weave = Weaves.withAims(12);
        for (int k = 0; k < 12; k++) {
            weave.revisits(k, 1, 1);
        }
        Weaves.loseAll(weave, 1, 30);
        Checks.equal("the first one", weave.revisitDay(0, 0), 31);
        Checks.equal("the first one alone: the others come right behind their lessons", weave.late(), 1);
        LessonWeave other = Weaves.withAims(12);
        for (int k = 0; k < 12; k++) {
            other.revisits(k, 2, 12);
        }
        Weaves.loseAll(other, 12, 35);
        Checks.equal("all first ones", other.late(), 12);
        Weaves.loseAll(other, 60, 83);
        Checks.equal("all first ones and second ones", other.late(), 24);
    }

    // ---- promise 15

    private static void noLastDay() {
        LessonWeave weave = new LessonWeave();
        Checks.equal("without aims", weave.lastDay(), NONE);
        weave.lose(99);
        Checks.equal("a lost day", weave.lastDay(), NONE);
        weave.aim(1, 0, 1, NONE);
        Weaves.loseAll(weave, 0, 98);
        Checks.equal("without days", weave.lastDay(), NONE);
    }

    private static void firstDayIsTheLast() {
        LessonWeave weave = Weaves.withAims(1);
        Checks.equal("the day 0", weave.lastDay(), 0);
        weave.lose(0);
        Checks.equal("the day 1", weave.lastDay(), 1);
    }

    private static void lastDayOfAll() {
        LessonWeave weave = Weaves.withAims(1);
        Weaves.loseAll(weave, 0, 97);
        Checks.equal("the day 98", weave.lastDay(), 98);
        weave.revisits(0, 3, 1);
        Checks.equal("the day 99", weave.lastDay(), 99);
        weave.lose(98);
        Checks.equal("the day 99 still", weave.lastDay(), 99);
    }

    private static void lastDayBehindDaysOfNothing() {
        LessonWeave weave = Weaves.withAims(2);
        weave.revisits(0, 3, 10);
        Checks.equal("a revisit of the first aim", weave.lastDay(), 70);
        Weaves.loseAll(weave, 70, 98);
        Checks.equal("behind lost days", weave.lastDay(), 99);
        weave.lose(99);
        Checks.equal("when it falls off", weave.lastDay(), 30);
    }
}
