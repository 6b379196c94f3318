/** Promises 9 to 15: what lies on the days. */
public final class PlanTest {
    private static final int NONE = LessonWeave.NONE;
    private static final int REVISIT = LessonWeave.REVISIT;
    private static final int LOW = Integer.MIN_VALUE;
    private static final int HIGH = Integer.MAX_VALUE;

    public static void main(String[] args) {
        promise9Lose();
        promise9LoseADayWithNothing();
        promise9LoseCountsWhatFallsOff();
        promise9LoseCountsWhatStays();
        promise9LoseRefused();
        promise10On();
        promise10Kits();
        promise10KitsOfThreeAims();
        promise10KitsAndLostDays();
        promise10KitsAndRevisits();
        promise10LessonsOfABlockedAimWait();
        promise10RevisitsAheadOfLessons();
        promise10EarliestLateFirst();
        promise10LowestAimOfSeveral();
        promise11LessonDay();
        promise12RevisitDay();
        promise12RevisitsFollowTheDayLaid();
        promise13Laid();
        promise14Late();
        promise14LateSecondAndThird();
        promise15LastDay();
        Checks.end();
    }

    private static void days(String what, LessonWeave weave, int... want) {
        for (int day = 0; day < want.length; day++) {
            Checks.equal(what + ", on(" + day + ")", weave.on(day), want[day]);
        }
        for (int day = want.length; day < 100; day++) {
            Checks.equal(what + ", on(" + day + ")", weave.on(day), NONE);
        }
    }

    private static void loseAll(LessonWeave weave, int first, int last) {
        for (int day = first; day <= last; day++) {
            weave.lose(day);
        }
    }

    private static void promise9Lose() {
        LessonWeave weave = new LessonWeave();
        weave.aim(3, 0, 1, NONE);
        weave.aim(2, 0, 1, NONE);
        Checks.equal("9: all but two lessons", weave.lose(2), 3);
        days("9", weave, 0, 0, NONE, 0, 1, 1);
        Checks.equal("9: the first day", weave.lose(0), 5);
        days("9", weave, NONE, 0, NONE, 0, 0, 1, 1);
        Checks.equal("9: the last lesson", weave.lose(6), 1);
        days("9", weave, NONE, 0, NONE, 0, 0, 1, NONE, 1);
    }

    private static void promise9LoseADayWithNothing() {
        LessonWeave weave = new LessonWeave();
        weave.aim(1, 0, 1, NONE);
        weave.revisits(0, 1, 10);
        Checks.equal("9: nothing lay there", weave.lose(5), 0);
        Checks.equal("9: nothing lay there, behind all", weave.lose(99), 0);
        Checks.equal("9: a revisit", weave.lose(10), 1);
        Checks.equal("9: a revisit again", weave.lose(11), 1);
        Checks.equal("9: the lesson; its revisit, due a day later, stays", weave.lose(0), 1);
        days("9", weave, NONE, 0, NONE, NONE, NONE, NONE, NONE, NONE, NONE, NONE, NONE, NONE, REVISIT);
    }

    private static void promise9LoseCountsWhatFallsOff() {
        LessonWeave weave = new LessonWeave();
        weave.aim(3, 0, 1, NONE);
        loseAll(weave, 0, 96);
        Checks.equal("9: the last three days", weave.laid(), 3);
        Checks.equal("9: two go on, one is not laid any more", weave.lose(97), 3);
        Checks.equal("9: what is not laid any more", weave.lessonDay(0, 2), NONE);
        Checks.equal("9: only what was laid counts", weave.lose(99), 1);
        Checks.equal("9: the one left is not laid any more", weave.lose(98), 1);
        Checks.equal("9: nothing is laid", weave.laid(), 0);
    }

    private static void promise9LoseCountsWhatStays() {
        LessonWeave weave = new LessonWeave();
        weave.aim(1, 0, 1, 0);
        weave.aim(1, 0, 1, 0);
        weave.aim(1, 1, 1, NONE);
        days("9", weave, 0, NONE, NONE, 1, 2);
        Checks.equal("9: the day between two of a kit", weave.lose(1), 0);
        days("9", weave, 0, NONE, NONE, 1, 2);
        Checks.equal("9: the lesson behind moves, too", weave.lose(3), 2);
        days("9", weave, 0, NONE, NONE, NONE, 1, 2);
    }

    private static void promise9LoseRefused() {
        LessonWeave weave = new LessonWeave();
        weave.aim(2, 0, 1, NONE);
        for (int no : new int[] {-1, 100, 101, LOW, HIGH}) {
            Checks.outside("9: lose(" + no + ")", () -> weave.lose(no));
        }
        weave.lose(0);
        weave.lose(99);
        Checks.badState("9: the first day again", () -> weave.lose(0));
        Checks.badState("9: the last day again", () -> weave.lose(99));
        days("9: nothing has changed", weave, NONE, 0, 0);
    }

    private static void promise10On() {
        LessonWeave weave = new LessonWeave();
        weave.aim(2, 0, 1, NONE);
        weave.aim(5, 1, 1, 0);
        weave.aim(1, 0, 1, 1);
        days("10: along the order", weave, 0, 0, 2, 1, 1, 1, 1, 1);
        weave.need(0, 1);
        days("10: along the new order", weave, 1, 1, 1, 1, 1, 0, 0, 2);
        for (int no : new int[] {-1, 100, LOW, HIGH}) {
            Checks.outside("10: on(" + no + ")", () -> weave.on(no));
        }
        for (int k = 3; k < 12; k++) {
            weave.aim(1, 0, 1, NONE);
        }
        Checks.equal("10: the twelfth aim", weave.on(16), 11);
        weave.revisits(11, 1, 1);
        Checks.equal("10: the twelfth aim's revisit", weave.on(17), REVISIT + 11);
    }

    private static void promise10Kits() {
        LessonWeave weave = new LessonWeave();
        weave.aim(2, 0, 1, 2);
        weave.aim(1, 0, 1, 2);
        days("10: two days between", weave, 0, 0, NONE, NONE, 1);
        weave.aim(1, 0, 1, 1);
        weave.aim(1, 0, 1, NONE);
        weave.aim(1, 0, 1, NONE);
        weave.aim(1, 0, 1, 1);
        days("10: other kits and none", weave, 0, 0, NONE, NONE, 1, 2, 3, 4, 5);
    }

    private static void promise10KitsOfThreeAims() {
        LessonWeave weave = new LessonWeave();
        weave.aim(1, 0, 1, 0);
        weave.aim(1, 0, 1, NONE);
        weave.aim(1, 0, 1, 0);
        weave.aim(1, 0, 1, 1);
        weave.aim(1, 0, 1, 0);
        days("10: one day between counts", weave, 0, 1, NONE, 2, 3, NONE, 4);
    }

    private static void promise10KitsAndLostDays() {
        LessonWeave weave = new LessonWeave();
        weave.aim(1, 0, 1, 0);
        weave.aim(1, 0, 1, 0);
        weave.lose(1);
        weave.lose(2);
        days("10: lost days count as days", weave, 0, NONE, NONE, 1);
    }

    private static void promise10KitsAndRevisits() {
        LessonWeave weave = new LessonWeave();
        weave.aim(1, 0, 1, 0);
        weave.aim(1, 0, 1, 0);
        weave.revisits(0, 3, 1);
        days("10: a revisit uses no kit", weave, 0, REVISIT, NONE, REVISIT, 1, NONE, NONE, REVISIT);
        weave.revisits(0, 3, 2);
        days("10: and needs none", weave, 0, NONE, REVISIT, 1, NONE, NONE, REVISIT, NONE, NONE, NONE, NONE, NONE, NONE,
            NONE, REVISIT);
    }

    private static void promise10LessonsOfABlockedAimWait() {
        LessonWeave weave = new LessonWeave();
        weave.aim(1, 0, 1, 0);
        weave.aim(1, 0, 1, 0);
        weave.aim(1, 0, 1, NONE);
        days("10: no other aim steps in", weave, 0, NONE, NONE, 1, 2);
    }

    private static void promise10RevisitsAheadOfLessons() {
        LessonWeave weave = new LessonWeave();
        weave.aim(1, 0, 1, NONE);
        weave.aim(5, 0, 1, NONE);
        weave.revisits(0, 2, 2);
        days("10: revisits come first", weave, 0, 1, REVISIT, 1, 1, 1, REVISIT, 1);
        weave.revisits(1, 1, 1);
        Checks.equal("10: behind the last lesson alone", weave.on(8), REVISIT + 1);
    }

    private static void promise10EarliestLateFirst() {
        LessonWeave weave = new LessonWeave();
        weave.aim(1, 0, 1, NONE);
        weave.aim(5, 0, 1, NONE);
        weave.revisits(0, 1, 10);
        weave.revisits(1, 1, 6);
        Checks.equal("10: due on the day 10", weave.on(10), REVISIT);
        Checks.equal("10: due on the day 11", weave.on(11), REVISIT + 1);
        weave.lose(10);
        Checks.equal("10: late from the day 17 on", weave.on(11), REVISIT + 1);
        Checks.equal("10: late from the day 20 on", weave.on(12), REVISIT);
        loseAll(weave, 11, 24);
        Checks.equal("10: late ahead of the other", weave.on(25), REVISIT + 1);
        Checks.equal("10: late behind it", weave.on(26), REVISIT);
        Checks.equal("10: both are late", weave.late(), 2);
    }

    private static void promise10LowestAimOfSeveral() {
        LessonWeave weave = new LessonWeave();
        weave.aim(2, 0, 1, NONE);
        weave.aim(1, 0, 1, NONE);
        weave.need(0, 1);
        weave.revisits(0, 1, 4);
        weave.revisits(1, 1, 5);
        Checks.equal("10: due first", weave.on(5), REVISIT + 1);
        weave.lose(5);
        Checks.equal("10: both late from the day 10 on", weave.on(6), REVISIT);
        Checks.equal("10: both late from the day 10 on", weave.on(7), REVISIT + 1);
    }

    private static void promise11LessonDay() {
        LessonWeave weave = new LessonWeave();
        weave.aim(5, 0, 1, NONE);
        weave.aim(1, 0, 1, NONE);
        weave.need(0, 1);
        for (int lesson = 0; lesson < 5; lesson++) {
            Checks.equal("11: lessonDay(0, " + lesson + ")", weave.lessonDay(0, lesson), lesson + 1);
        }
        Checks.equal("11: lessonDay(1, 0)", weave.lessonDay(1, 0), 0);
        for (int no : new int[] {-1, 2, 12, LOW, HIGH}) {
            Checks.outside("11: lessonDay(" + no + ", 0)", () -> weave.lessonDay(no, 0));
        }
        for (int no : new int[] {-1, 5, LOW, HIGH}) {
            Checks.outside("11: lessonDay(0, " + no + ")", () -> weave.lessonDay(0, no));
        }
        Checks.outside("11: lessonDay(1, 1)", () -> weave.lessonDay(1, 1));
        Checks.outside("11: lessonDay(1, -1)", () -> weave.lessonDay(1, -1));
        loseAll(weave, 3, 99);
        Checks.equal("11: laid still", weave.lessonDay(0, 1), 2);
        Checks.equal("11: not laid", weave.lessonDay(0, 2), NONE);
        Checks.outside("11: no such lesson, laid or not", () -> weave.lessonDay(0, 5));
    }

    private static void promise12RevisitDay() {
        LessonWeave weave = new LessonWeave();
        weave.aim(2, 0, 1, NONE);
        weave.aim(1, 0, 1, NONE);
        weave.revisits(0, 3, 3);
        Checks.equal("12: the gap", weave.revisitDay(0, 0), 4);
        Checks.equal("12: twice the gap", weave.revisitDay(0, 1), 10);
        Checks.equal("12: four times the gap", weave.revisitDay(0, 2), 22);
        for (int no : new int[] {-1, 2, 12, LOW, HIGH}) {
            Checks.outside("12: revisitDay(" + no + ", 0)", () -> weave.revisitDay(no, 0));
        }
        for (int no : new int[] {-1, 3, LOW, HIGH}) {
            Checks.outside("12: revisitDay(0, " + no + ")", () -> weave.revisitDay(0, no));
        }
        Checks.outside("12: an aim without revisits", () -> weave.revisitDay(1, 0));
        weave.revisits(0, 1, 3);
        Checks.outside("12: one revisit alone", () -> weave.revisitDay(0, 1));
        weave.revisits(0, 3, 14);
        Checks.equal("12: by the day 99", weave.revisitDay(0, 2), 1 + 14 + 28 + 56);
        weave.revisits(0, 3, 15);
        Checks.equal("12: not laid", weave.revisitDay(0, 2), NONE);
        Checks.equal("12: laid", weave.revisitDay(0, 1), 1 + 15 + 30);
    }

    private static void promise12RevisitsFollowTheDayLaid() {
        LessonWeave weave = new LessonWeave();
        weave.aim(1, 0, 1, NONE);
        weave.revisits(0, 3, 2);
        loseAll(weave, 2, 4);
        Checks.equal("12: due on the day 2", weave.revisitDay(0, 0), 5);
        Checks.equal("12: from the day laid on", weave.revisitDay(0, 1), 9);
        Checks.equal("12: from the day laid on", weave.revisitDay(0, 2), 17);
        weave.lose(9);
        Checks.equal("12: a day later", weave.revisitDay(0, 1), 10);
        Checks.equal("12: from the day laid on", weave.revisitDay(0, 2), 18);
    }

    private static void promise13Laid() {
        LessonWeave weave = new LessonWeave();
        for (int k = 0; k < 12; k++) {
            weave.aim(5, 0, 1, NONE);
            Checks.equal("13: lessons", weave.laid(), 5 * k + 5);
        }
        weave.revisits(11, 2, 10);
        Checks.equal("13: lessons and revisits", weave.laid(), 62);
        weave.revisits(11, 3, 10);
        Checks.equal("13: a revisit that is not laid", weave.laid(), 62);
        loseAll(weave, 50, 99);
        Checks.equal("13: as many as there are days", weave.laid(), 50);
    }

    private static void promise14Late() {
        LessonWeave weave = new LessonWeave();
        weave.aim(1, 0, 1, NONE);
        weave.revisits(0, 1, 2);
        Checks.equal("14: on the day on which it is due", weave.late(), 0);
        weave.lose(2);
        Checks.equal("14: the day ahead of being late", weave.late(), 0);
        weave.lose(3);
        Checks.equal("14: as many days again behind", weave.late(), 1);
        weave.lose(4);
        Checks.equal("14: later still", weave.late(), 1);
        loseAll(weave, 5, 99);
        Checks.equal("14: not laid, so not counted", weave.late(), 0);
    }

    private static void promise14LateSecondAndThird() {
        LessonWeave weave = new LessonWeave();
        weave.aim(1, 0, 1, NONE);
        weave.revisits(0, 3, 1);
        Checks.equal("14: none is late", weave.late(), 0);
        loseAll(weave, 3, 4);
        Checks.equal("14: the second one, due on the day 3", weave.revisitDay(0, 1), 5);
        Checks.equal("14: the second one is late", weave.late(), 1);
        loseAll(weave, 9, 11);
        Checks.equal("14: the third one, due on the day 9", weave.revisitDay(0, 2), 12);
        Checks.equal("14: the third one is not late", weave.late(), 1);
        weave.lose(12);
        Checks.equal("14: the third one is late, too", weave.late(), 2);
        weave.lose(1);
        Checks.equal("14: all are moved", weave.late(), 2);
        Checks.equal("14: the first one, late now", weave.revisitDay(0, 0), 2);
    }

    private static void promise15LastDay() {
        LessonWeave weave = new LessonWeave();
        weave.aim(1, 0, 1, NONE);
        Checks.equal("15: the day 0", weave.lastDay(), 0);
        weave.aim(4, 0, 1, NONE);
        Checks.equal("15: a lesson", weave.lastDay(), 4);
        weave.revisits(0, 1, 20);
        Checks.equal("15: a revisit", weave.lastDay(), 20);
        loseAll(weave, 0, 98);
        Checks.equal("15: the last day of all", weave.lastDay(), 99);
        weave.lose(99);
        Checks.equal("15: nothing is laid", weave.lastDay(), NONE);
    }
}
