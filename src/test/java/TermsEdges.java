/** The sentences of 'What it is' and of 'Terms'. */
final class TermsEdges {
    private static final int NONE = Weaves.NONE;
    private static final int REVISIT = Weaves.REVISIT;

    private TermsEdges() {
    }

    static void run() {
        Sentences.test("What it is",
            "An object is used for at most 512 calls after it has been made; what later calls answer is free.",
            TermsEdges::call512OfChanges, TermsEdges::call512BehindRefusedCalls, TermsEdges::call512BehindQuestions);
        aims();
        order();
        days();
        revisits();
        plan();
        whatThrows();
        constants();
    }

    // ---- the 512 calls

    private static void call512OfChanges() {
        LessonWeave weave = Weaves.withAims(12);
        for (int call = 13; call <= 509; call++) {
            int aim = call % 11 + 1;
            if (call % 22 < 11) {
                weave.revisits(aim, 3, call % 20 + 1);
            } else {
                weave.revisits(aim, 0, 1);
            }
        }
        weave.lose(0);
        weave.need(0, 11);
        Checks.equal("the call 512, ordered(11)", weave.ordered(11), 0);
    }

    private static void call512BehindRefusedCalls() {
        LessonWeave weave = Weaves.withAims(2);
        weave.need(0, 1);
        for (int call = 4; call <= 511; call++) {
            Checks.badState("the call " + call + ", need(1, 0)", () -> weave.need(1, 0));
        }
        Checks.equal("the call 512, free(0, 1)", weave.free(0, 1), 0);
    }

    private static void call512BehindQuestions() {
        LessonWeave weave = Weaves.withAims(1);
        for (int call = 2; call <= 511; call++) {
            Checks.equal("the call " + call + ", bestNet(" + call % 10 + ")", weave.bestNet(call % 10), 10 - call % 10);
        }
        Checks.equal("the call 512, worthwhile(9)", weave.worthwhile(9), 1);
    }

    // ---- aims and sets

    private static void aims() {
        Sentences.test("Terms",
            "There are at most 12 aims, numbered from 0, each with a number of lessons, 1 to 5, a kind, 0 to 3, "
                + "a worth, 1 to 99, and a kit, 0 to 2, or none.",
            TermsEdges::twelveAims, TermsEdges::leastAndGreatestOfAnAim, TermsEdges::eachKindIsAnother,
            TermsEdges::eachKitIsAnother);
        Sentences.test("Terms", "An aim can need others; no aim needs itself, also not by way of others.",
            TermsEdges::needsAllOthers, TermsEdges::needsItselfByNoWay, TermsEdges::needsTheSameByTwoWays);
        Sentences.test("Terms", "A set of aims is closed if it has all that its aims need.",
            TermsEdges::emptySetIsClosed, TermsEdges::setOfAllIsClosed, TermsEdges::closedByWayOfOthers);
        Sentences.test("Terms", "Sets are told as bits, bit k for the aim k.", TermsEdges::eachBit);
        Sentences.test("Terms",
            "The net of an aim, for some price of a lesson, is its worth less the price times its lessons; "
                + "the net of a set is the sum of those of its aims.",
            TermsEdges::leastAndGreatestNet, TermsEdges::netBelowZero, TermsEdges::netOfASet);
    }

    private static void twelveAims() {
        LessonWeave weave = new LessonWeave();
        for (int k = 0; k < 12; k++) {
            Checks.equal("the number", weave.aim(1, 0, 1, NONE), k);
        }
        Checks.badState("a 13th aim", () -> weave.aim(1, 0, 1, NONE));
        Checks.equal("aims()", weave.aims(), 12);
        Checks.equal("the aim 11 is laid", weave.lessonDay(11, 0), 11);
        Checks.outside("there is no aim 12", () -> weave.lessonDay(12, 0));
    }

    private static void leastAndGreatestOfAnAim() {
        LessonWeave least = new LessonWeave();
        Checks.equal("all least", least.aim(1, 0, 1, 0), 0);
        Checks.equal("its lessons", least.laid(), 1);
        Checks.equal("its worth", least.bestNet(0), 1);
        LessonWeave greatest = new LessonWeave();
        Checks.equal("all greatest", greatest.aim(5, 3, 99, 2), 0);
        Checks.equal("its lessons", greatest.laid(), 5);
        Checks.equal("its worth", greatest.bestNet(0), 99);
        Checks.equal("none for the kit", greatest.aim(5, 3, 99, NONE), 1);
    }

    private static void eachKindIsAnother() {
        for (int kind = 0; kind <= 3; kind++) {
            for (int other = 0; other <= 3; other++) {
                LessonWeave weave = Weaves.ofKinds(kind, other, kind);
                Checks.equal("the kind " + kind + " and the kind " + other, weave.ordered(1), kind == other ? 1 : 2);
            }
        }
    }

    private static void eachKitIsAnother() {
        for (int kit = -1; kit <= 2; kit++) {
            for (int other = -1; other <= 2; other++) {
                LessonWeave weave = Weaves.ofKits(kit, other);
                boolean hinders = kit == other && kit != NONE;
                Checks.equal("the kit " + kit + " and the kit " + other, weave.lessonDay(1, 0), hinders ? 3 : 1);
            }
        }
    }

    private static void needsAllOthers() {
        LessonWeave weave = Weaves.withAims(12);
        for (int k = 0; k < 11; k++) {
            Checks.equal("need(11, " + k + ")", weave.need(11, k), k + 1);
        }
        Checks.equal("allNeeds(11)", weave.allNeeds(11), 0x7FF);
        Checks.equal("needs of one that needs none", weave.allNeeds(0), 0);
    }

    private static void needsItselfByNoWay() {
        for (int many = 1; many <= 12; many++) {
            LessonWeave weave = Weaves.chain(many);
            int last = many - 1;
            for (int k = 0; k < many; k++) {
                int aim = k;
                Checks.badArgument("the aim " + k + " itself", () -> weave.need(aim, aim));
                Checks.equal("allNeeds(" + k + ") is without itself", weave.allNeeds(k) >> k & 1, 0);
                if (k < last) {
                    Checks.badState("a way round of " + (many - k), () -> weave.need(last, aim));
                }
            }
        }
    }

    private static void needsTheSameByTwoWays() {
        LessonWeave weave = Weaves.withAims(4);
        weave.need(0, 1);
        weave.need(0, 2);
        weave.need(1, 3);
        Checks.equal("two ways to one are no way round", weave.need(2, 3), 1);
        Checks.equal("and one by itself", weave.need(0, 3), 3);
        Checks.badState("round by two ways", () -> weave.need(3, 0));
    }

    private static void emptySetIsClosed() {
        Checks.equal("without aims", new LessonWeave().closedSets(), 1);
        LessonWeave weave = Weaves.withAims(1);
        Checks.equal("with one aim", weave.closedSets(), 2);
        Checks.equal("the empty one is the best", weave.worthwhile(99), 0);
    }

    private static void setOfAllIsClosed() {
        for (int many = 1; many <= 12; many++) {
            Checks.equal("all " + many, Weaves.chain(many).worthwhile(0), (1 << many) - 1);
        }
    }

    private static void closedByWayOfOthers() {
        LessonWeave weave = new LessonWeave();
        weave.aim(1, 0, 1, NONE);
        weave.aim(1, 0, 2, NONE);
        weave.aim(1, 0, 99, NONE);
        weave.need(2, 1);
        weave.need(1, 0);
        Checks.equal("none, 0, 0 and 1, and all", weave.closedSets(), 4);
        Checks.equal("2 not without 1 and 0", weave.worthwhile(3), 0b111);
        weave.free(2, 1);
        Checks.equal("2 without both", weave.worthwhile(3), 0b100);
    }

    private static void eachBit() {
        for (int k = 0; k < 12; k++) {
            LessonWeave weave = new LessonWeave();
            for (int other = 0; other < 12; other++) {
                weave.aim(1, 0, other == k ? 99 : 1, NONE);
            }
            Checks.equal("worthwhile(1), the aim " + k, weave.worthwhile(1), 1 << k);
            int from = k == 0 ? 11 : 0;
            weave.need(from, k);
            Checks.equal("allNeeds, the aim " + k, weave.allNeeds(from), 1 << k);
        }
        Checks.equal("all bits", Weaves.withAims(12).worthwhile(0), 0xFFF);
        Checks.equal("all bits but the bit 0", Weaves.chain(12).allNeeds(0), 0xFFE);
    }

    private static void leastAndGreatestNet() {
        LessonWeave weave = new LessonWeave();
        weave.aim(5, 0, 99, NONE);
        Checks.equal("at a price of 0", weave.bestNet(0), 99);
        Checks.equal("at a price of 19", weave.bestNet(19), 99 - 19 * 5);
        Checks.equal("at a price of 20, below 0", weave.bestNet(20), 0);
        for (int k = 1; k < 12; k++) {
            weave.aim(1, 0, 99, NONE);
        }
        Checks.equal("twelve at a price of 0", weave.bestNet(0), 12 * 99);
        Checks.equal("eleven at a price of 98", weave.bestNet(98), 11);
    }

    private static void netBelowZero() {
        LessonWeave weave = new LessonWeave();
        weave.aim(5, 0, 1, NONE);
        for (int k = 1; k < 12; k++) {
            weave.aim(1, 0, 99, NONE);
            weave.need(k, 0);
        }
        Checks.equal("1 - 5 * 68 is carried by eleven", weave.bestNet(68), 11 * 31 + 1 - 5 * 68);
        Checks.equal("and by all of them", weave.worthwhile(68), 0xFFF);
        Checks.equal("1 - 5 * 69 is not", weave.bestNet(69), 0);
        Checks.equal("1 - 5 * 99 is not", weave.worthwhile(99), 0);
    }

    private static void netOfASet() {
        LessonWeave weave = new LessonWeave();
        weave.aim(1, 0, 7, NONE);
        weave.aim(4, 0, 50, NONE);
        weave.aim(3, 0, 99, NONE);
        weave.need(2, 0);
        weave.need(2, 1);
        Checks.equal("all at 13", weave.bestNet(13), 7 - 13 + 50 - 52 + 99 - 39);
        Checks.equal("all at 19", weave.bestNet(19), 7 - 19 + 50 - 76 + 99 - 57);
        Checks.equal("none at 20", weave.bestNet(20), 0);
    }

    // ---- the order

    private static void order() {
        Sentences.test("Terms",
            "One after the other an aim is taken that was not taken, and all of whose needs were: if there are such "
                + "of the kind of the aim taken last, the lowest of these, otherwise the lowest of all such.",
            TermsEdges::orderOfNoneAndOne, TermsEdges::noKindIsTakenLastAtFirst, TermsEdges::lowestKindredOne,
            TermsEdges::kindredOneBelowTheLast, TermsEdges::onlyTheLastKindCounts,
            TermsEdges::kindredOneWhoseNeedsWereNotTaken, TermsEdges::allNeedsTakenNotOne, TermsEdges::longestOrder);
    }

    private static void orderOfNoneAndOne() {
        LessonWeave weave = new LessonWeave();
        Weaves.allOutside("ordered", Weaves.beside(0, -1), weave::ordered);
        weave.aim(1, 3, 1, NONE);
        Weaves.order(weave, 0);
    }

    private static void noKindIsTakenLastAtFirst() {
        for (int kind = 0; kind <= 3; kind++) {
            for (int other = 0; other <= 3; other++) {
                Weaves.order(Weaves.ofKinds(kind, other), 0, 1);
            }
        }
    }

    private static void lowestKindredOne() {
        Weaves.order(Weaves.ofKinds(2, 1, 2, 2, 1, 2), 0, 2, 3, 5, 1, 4);
        Weaves.order(Weaves.ofKinds(0, 3, 2, 3, 2, 0), 0, 5, 1, 3, 2, 4);
    }

    private static void kindredOneBelowTheLast() {
        LessonWeave weave = Weaves.ofKinds(1, 0, 2, 1, 0);
        weave.need(0, 3);
        weave.need(1, 2);
        Weaves.order(weave, 2, 1, 4, 3, 0);
    }

    private static void onlyTheLastKindCounts() {
        LessonWeave weave = Weaves.ofKinds(0, 1, 2, 0);
        weave.need(3, 1);
        Weaves.order(weave, 0, 1, 2, 3);
    }

    private static void kindredOneWhoseNeedsWereNotTaken() {
        LessonWeave weave = Weaves.ofKinds(0, 0, 1, 0, 1);
        weave.need(1, 4);
        Weaves.order(weave, 0, 3, 2, 4, 1);
    }

    private static void allNeedsTakenNotOne() {
        LessonWeave weave = Weaves.ofKinds(0, 1, 2, 3);
        weave.need(0, 1);
        weave.need(0, 3);
        Weaves.order(weave, 1, 2, 3, 0);
    }

    private static void longestOrder() {
        Weaves.order(Weaves.chain(12), 11, 10, 9, 8, 7, 6, 5, 4, 3, 2, 1, 0);
        Weaves.order(Weaves.ofKinds(0, 1, 2, 3, 0, 1, 2, 3, 0, 1, 2, 3), 0, 4, 8, 1, 5, 9, 2, 6, 10, 3, 7, 11);
        LessonWeave weave = Weaves.withAims(12);
        for (int k = 1; k < 12; k++) {
            weave.need(0, k);
        }
        Weaves.order(weave, 1, 2, 3, 4, 5, 6, 7, 8, 9, 10, 11, 0);
    }

    // ---- days

    private static void days() {
        Sentences.test("Terms", "Days are numbered from 0 to 99; some are lost.",
            TermsEdges::firstAndLastDay, TermsEdges::allDaysAreLost, TermsEdges::eachDayIsLostAlone);
        Sentences.test("Terms", "What does not come onto a day by the day 99 is not laid.",
            TermsEdges::lessonOnTheDay99, TermsEdges::revisitOnTheDay99, TermsEdges::lessonPushedOffByARevisit,
            TermsEdges::blockedUntilTheEnd);
    }

    private static void firstAndLastDay() {
        LessonWeave weave = Weaves.withAims(1);
        Checks.equal("the day 0", weave.on(0), 0);
        Weaves.loseAll(weave, 0, 98);
        Checks.equal("the day 99", weave.on(99), 0);
        Weaves.allOutside("on", Weaves.beside(0, 99), weave::on);
        Weaves.allOutside("lose", Weaves.beside(0, 99), weave::lose);
    }

    private static void allDaysAreLost() {
        LessonWeave weave = Weaves.withAims(2);
        Weaves.loseAll(weave, 0, 99);
        Weaves.days(weave);
        Checks.equal("laid()", weave.laid(), 0);
        Checks.equal("an aim can be added still", weave.aim(5, 0, 1, NONE), 2);
        Checks.equal("lessonDay(2, 4)", weave.lessonDay(2, 4), NONE);
    }

    private static void eachDayIsLostAlone() {
        for (int day = 0; day < 100; day++) {
            LessonWeave weave = new LessonWeave();
            for (int k = 0; k < 12; k++) {
                weave.aim(5, 0, 1, NONE);
                weave.revisits(k, 3, 1);
            }
            weave.lose(day);
            Checks.equal("on(" + day + ")", weave.on(day), NONE);
            // There are lessons left on each of these days, as they are 60 and a day is lost.
            for (int other = 0; other < 60; other++) {
                Checks.holds("that the day " + day + " alone is lost, not " + other,
                    other == day || weave.on(other) != NONE);
            }
        }
    }

    private static void lessonOnTheDay99() {
        LessonWeave weave = Weaves.ofLessons(3);
        Weaves.loseAll(weave, 0, 97);
        Checks.equal("the day 98", weave.lessonDay(0, 0), 98);
        Checks.equal("the day 99", weave.lessonDay(0, 1), 99);
        Checks.equal("not laid", weave.lessonDay(0, 2), NONE);
        Checks.equal("laid()", weave.laid(), 2);
    }

    private static void revisitOnTheDay99() {
        LessonWeave weave = Weaves.withAims(1);
        Weaves.loseAll(weave, 0, 78);
        weave.revisits(0, 1, 20);
        Weaves.revisitDays(weave, 0, 99);
        weave.lose(79);
        Weaves.revisitDays(weave, 0, NONE);
        weave.revisits(0, 3, 7);
        Weaves.revisitDays(weave, 0, 87, NONE, NONE);
        weave.revisits(0, 3, 6);
        Weaves.revisitDays(weave, 0, 86, 98, NONE);
    }

    private static void lessonPushedOffByARevisit() {
        LessonWeave weave = Weaves.ofLessons(1, 5);
        Weaves.loseAll(weave, 0, 93);
        Checks.equal("the last lesson", weave.lessonDay(1, 4), 99);
        weave.revisits(0, 1, 5);
        Checks.equal("the revisit", weave.on(99), REVISIT);
        Checks.equal("the last lesson", weave.lessonDay(1, 4), NONE);
        Checks.equal("laid()", weave.laid(), 6);
    }

    private static void blockedUntilTheEnd() {
        LessonWeave weave = Weaves.ofKits(1, 1, NONE);
        Weaves.loseAll(weave, 0, 96);
        Checks.equal("from three days ahead", weave.lessonDay(1, 0), NONE);
        Checks.equal("and nothing behind it", weave.laid(), 1);
        LessonWeave earlier = Weaves.ofKits(1, 1, NONE);
        Weaves.loseAll(earlier, 0, 95);
        Checks.equal("from four days ahead", earlier.lessonDay(1, 0), 99);
        Checks.equal("and nothing behind it", earlier.laid(), 2);
    }

    // ---- revisits

    private static void revisits() {
        Sentences.test("Terms", "Each aim has revisits, 0 to 3, and a gap, 1 to 20, at first 0 and 1.",
            TermsEdges::noRevisitsAtFirst, TermsEdges::leastAndGreatestGap);
        Sentences.test("Terms",
            "Its first revisit is due the gap in days behind its last lesson, the second one twice the gap behind the "
                + "first revisit, the third one four times the gap behind the second one; each is late from the day on "
                + "that is as many days again behind the one on which it is due.",
            TermsEdges::dueBehindTheLastLesson, TermsEdges::dueBehindTheDayLaid, TermsEdges::firstLateDayOfEach,
            TermsEdges::notDueWithoutTheLastLesson);
    }

    private static void noRevisitsAtFirst() {
        LessonWeave weave = Weaves.withAims(12);
        for (int k = 0; k < 12; k++) {
            int aim = k;
            Checks.outside("revisitDay(" + k + ", 0)", () -> weave.revisitDay(aim, 0));
            Checks.equal("revisits(" + k + ", 0, 1)", weave.revisits(k, 0, 1), 0);
        }
        Checks.equal("laid()", weave.laid(), 12);
    }

    private static void leastAndGreatestGap() {
        LessonWeave weave = Weaves.withAims(1);
        Checks.equal("3 and 1", weave.revisits(0, 3, 1), 0);
        Weaves.days(weave, 0, REVISIT, NONE, REVISIT, NONE, NONE, NONE, REVISIT);
        Checks.equal("3 and 20", weave.revisits(0, 3, 20), 3);
        Weaves.revisitDays(weave, 0, 20, 60, NONE);
        Checks.equal("0 and 20", weave.revisits(0, 0, 20), 3);
        Weaves.days(weave, 0);
        Weaves.badArguments("revisits(0, .., 1)", Weaves.beside(0, 3), many -> weave.revisits(0, many, 1));
        Weaves.badArguments("revisits(0, 1, ..)", Weaves.beside(1, 20), gap -> weave.revisits(0, 1, gap));
    }

    private static void dueBehindTheLastLesson() {
        for (int gap = 1; gap <= 20; gap++) {
            for (int lessons = 1; lessons <= 5; lessons++) {
                LessonWeave weave = Weaves.ofLessons(lessons);
                weave.revisits(0, 3, gap);
                int last = lessons - 1;
                int third = last + 7 * gap;
                Weaves.revisitDays(weave, 0, last + gap, last + 3 * gap, third > 99 ? NONE : third);
                Checks.equal("late()", weave.late(), 0);
            }
        }
    }

    private static void dueBehindTheDayLaid() {
        LessonWeave weave = Weaves.ofLessons(2);
        weave.revisits(0, 3, 3);
        weave.lose(1);
        Weaves.revisitDays(weave, 0, 2 + 3, 5 + 6, 11 + 12);
        weave.lose(5);
        Weaves.revisitDays(weave, 0, 6, 6 + 6, 12 + 12);
        weave.lose(12);
        Weaves.revisitDays(weave, 0, 6, 13, 13 + 12);
        weave.lose(25);
        Weaves.revisitDays(weave, 0, 6, 13, 26);
    }

    private static void firstLateDayOfEach() {
        for (int gap = 1; gap <= 7; gap++) {
            for (int revisit = 0; revisit < 3; revisit++) {
                LessonWeave weave = Weaves.withAims(1);
                weave.revisits(0, 3, gap);
                int wait = gap << revisit;
                int due = weave.revisitDay(0, revisit);
                for (int day = due; day < due + wait; day++) {
                    Checks.equal("the revisit " + revisit + " of the gap " + gap + ", due on the day " + due + ", on "
                        + day, weave.on(day), REVISIT);
                    Checks.equal("is not late on the day " + day, weave.late(), 0);
                    weave.lose(day);
                }
                Checks.equal("it lies on the day", weave.revisitDay(0, revisit), due + wait);
                Checks.equal("is late on the day " + (due + wait), weave.late(), 1);
            }
        }
    }

    private static void notDueWithoutTheLastLesson() {
        LessonWeave weave = Weaves.ofLessons(2);
        weave.revisits(0, 3, 1);
        Weaves.loseAll(weave, 1, 97);
        Weaves.revisitDays(weave, 0, 99, NONE, NONE);
        weave.lose(98);
        Checks.equal("the last lesson", weave.lessonDay(0, 1), 99);
        Weaves.revisitDays(weave, 0, NONE, NONE, NONE);
        weave.lose(99);
        Checks.equal("the last lesson", weave.lessonDay(0, 1), NONE);
        Weaves.revisitDays(weave, 0, NONE, NONE, NONE);
        Checks.equal("laid()", weave.laid(), 1);
    }

    // ---- the plan

    private static void plan() {
        Sentences.test("Terms",
            "Day by day from the day 0 on, one thing is laid on each day that is not lost, or nothing:",
            TermsEdges::oneThingOnEachDay, TermsEdges::nothingOnADayThatIsNotLost);
        Sentences.test("Terms",
            "1. if there are revisits that are due on that day, or were due ahead of it, and were not laid: that of "
                + "them which will be late, or was, on the earliest day; of several that of the lowest aim;",
            TermsEdges::dueOnThatDay, TermsEdges::dueAheadOfIt, TermsEdges::earliestLateDay,
            TermsEdges::earliestLateDayOfSecondRevisits, TermsEdges::lateAlready, TermsEdges::lowestAimOfSeveral);
        Sentences.test("Terms",
            "2. otherwise the next lesson of the first aim in the order that has lessons left, unless its kit was used "
                + "for a lesson of another aim on one of the 2 days right before (lost ones count as days, too): then "
                + "nothing.",
            TermsEdges::firstAimInTheOrder, TermsEdges::kitOnTheFirstDays, TermsEdges::kitOneTwoAndThreeDaysBefore,
            TermsEdges::kitOfTheSameAim, TermsEdges::kitOfARevisit, TermsEdges::kitAndLostDays,
            TermsEdges::kitHoldsUpAllBehind);
    }

    private static void oneThingOnEachDay() {
        LessonWeave weave = Weaves.ofLessons(5, 5, 5, 5, 5, 5, 5, 5, 5, 5, 5, 5);
        for (int k = 0; k < 12; k++) {
            weave.revisits(k, 3, 1);
        }
        Checks.equal("laid()", weave.laid(), 96);
        boolean[] seen = new boolean[100];
        for (int k = 0; k < 12; k++) {
            for (int lesson = 0; lesson < 5; lesson++) {
                mark(seen, weave.lessonDay(k, lesson), weave.on(weave.lessonDay(k, lesson)), k);
            }
            for (int revisit = 0; revisit < 3; revisit++) {
                mark(seen, weave.revisitDay(k, revisit), weave.on(weave.revisitDay(k, revisit)), REVISIT + k);
            }
        }
    }

    private static void mark(boolean[] seen, int day, int lies, int want) {
        Checks.equal("on(" + day + ")", lies, want);
        Checks.holds("that the day " + day + " is of one thing alone", !seen[day]);
        seen[day] = true;
    }

    private static void nothingOnADayThatIsNotLost() {
        LessonWeave weave = new LessonWeave();
        Weaves.days(weave);
        weave.aim(2, 0, 1, NONE);
        weave.revisits(0, 2, 2);
        Weaves.days(weave, 0, 0, NONE, REVISIT, NONE, NONE, NONE, REVISIT);
        weave.lose(0);
        Weaves.days(weave, NONE, 0, 0, NONE, REVISIT, NONE, NONE, NONE, REVISIT);
    }

    private static void dueOnThatDay() {
        LessonWeave weave = Weaves.ofLessons(1, 5);
        weave.revisits(0, 1, 3);
        Weaves.days(weave, 0, 1, 1, REVISIT, 1, 1, 1);
        weave.revisits(1, 1, 20);
        Checks.equal("a lesson of its own aim comes first", weave.on(26), REVISIT + 1);
    }

    private static void dueAheadOfIt() {
        LessonWeave weave = Weaves.ofLessons(1, 5);
        weave.revisits(0, 1, 1);
        weave.lose(1);
        weave.lose(2);
        Weaves.days(weave, 0, NONE, NONE, REVISIT, 1, 1, 1, 1, 1);
    }

    private static void earliestLateDay() {
        LessonWeave weave = Weaves.withAims(3);
        weave.revisits(0, 1, 9);
        weave.revisits(1, 1, 8);
        weave.revisits(2, 1, 6);
        Checks.equal("due on the day 8", weave.on(8), REVISIT + 2);
        Checks.equal("due on the day 9", weave.on(9), REVISIT + 1);
        Checks.equal("due on the day 9 as well", weave.on(10), REVISIT);
        weave.lose(8);
        weave.lose(9);
        Checks.equal("late on the day 14", weave.on(10), REVISIT + 2);
        Checks.equal("late on the day 17", weave.on(11), REVISIT + 1);
        Checks.equal("late on the day 18", weave.on(12), REVISIT);
    }

    private static void earliestLateDayOfSecondRevisits() {
        LessonWeave weave = Weaves.withAims(2);
        weave.revisits(0, 2, 4);
        weave.revisits(1, 1, 11);
        Weaves.loseAll(weave, 12, 13);
        Checks.equal("the second one, late on the day 20", weave.on(14), REVISIT);
        Checks.equal("the first one, late on the day 23", weave.on(15), REVISIT + 1);
        LessonWeave other = Weaves.withAims(2);
        other.revisits(0, 2, 4);
        other.revisits(1, 1, 9);
        Weaves.loseAll(other, 10, 13);
        Checks.equal("the first one, late on the day 19", other.on(14), REVISIT + 1);
        Checks.equal("the second one, late on the day 20", other.on(15), REVISIT);
    }

    private static void lateAlready() {
        LessonWeave weave = Weaves.withAims(3);
        weave.revisits(0, 1, 5);
        weave.revisits(1, 1, 2);
        weave.revisits(2, 1, 9);
        Weaves.loseAll(weave, 3, 11);
        Checks.equal("late since the day 5", weave.on(12), REVISIT + 1);
        Checks.equal("late since the day 10", weave.on(13), REVISIT);
        Checks.equal("late from the day 20 on", weave.on(14), REVISIT + 2);
        Checks.equal("late()", weave.late(), 2);
    }

    private static void lowestAimOfSeveral() {
        LessonWeave weave = Weaves.withAims(3);
        weave.need(0, 1);
        weave.need(1, 2);
        weave.revisits(0, 1, 6);
        weave.revisits(2, 1, 7);
        weave.lose(7);
        Checks.equal("both late on the day 14, the lower aim", weave.on(8), REVISIT);
        Checks.equal("both late on the day 14, the other one", weave.on(9), REVISIT + 2);
    }

    private static void firstAimInTheOrder() {
        LessonWeave weave = new LessonWeave();
        weave.aim(2, 0, 1, NONE);
        weave.aim(1, 1, 1, NONE);
        weave.aim(3, 0, 1, NONE);
        Weaves.days(weave, 0, 0, 2, 2, 2, 1);
        weave.need(0, 1);
        Weaves.days(weave, 1, 0, 0, 2, 2, 2);
    }

    private static void kitOnTheFirstDays() {
        for (int kit = 0; kit <= 2; kit++) {
            LessonWeave weave = Weaves.ofKits(kit);
            Checks.equal("the first day of all", weave.lessonDay(0, 0), 0);
            weave.lose(0);
            Checks.equal("the second one", weave.lessonDay(0, 0), 1);
        }
        Weaves.days(Weaves.ofKits(0, 1, 2), 0, 1, 2);
    }

    private static void kitOneTwoAndThreeDaysBefore() {
        Weaves.days(Weaves.ofKits(2, 2), 0, NONE, NONE, 1);
        Weaves.days(Weaves.ofKits(2, 1, 2), 0, 1, NONE, 2);
        Weaves.days(Weaves.ofKits(2, NONE, 1, 2), 0, 1, 2, 3);
        Weaves.days(Weaves.ofKits(NONE, NONE), 0, 1);
    }

    private static void kitOfTheSameAim() {
        LessonWeave weave = new LessonWeave();
        weave.aim(5, 0, 1, 1);
        Weaves.days(weave, 0, 0, 0, 0, 0);
        weave.aim(2, 0, 1, 1);
        Weaves.days(weave, 0, 0, 0, 0, 0, NONE, NONE, 1, 1);
        weave.lose(8);
        Weaves.days(weave, 0, 0, 0, 0, 0, NONE, NONE, 1, NONE, 1);
    }

    private static void kitOfARevisit() {
        LessonWeave weave = Weaves.ofKits(0, NONE, NONE, 0, 0);
        weave.revisits(0, 1, 2);
        Weaves.days(weave, 0, 1, REVISIT, 2, 3, NONE, NONE, 4);
        weave.revisits(0, 1, 6);
        Weaves.days(weave, 0, 1, 2, 3, NONE, NONE, REVISIT, 4);
    }

    private static void kitAndLostDays() {
        LessonWeave weave = Weaves.ofKits(0, 0);
        weave.lose(1);
        Weaves.days(weave, 0, NONE, NONE, 1);
        weave.lose(2);
        Weaves.days(weave, 0, NONE, NONE, 1);
        weave.lose(3);
        Weaves.days(weave, 0, NONE, NONE, NONE, 1);
    }

    private static void kitHoldsUpAllBehind() {
        LessonWeave weave = Weaves.ofKits(0, 0, NONE, 1);
        weave.revisits(0, 1, 1);
        Weaves.days(weave, 0, REVISIT, NONE, 1, 2, 3);
    }

    // ---- what throws

    private static void whatThrows() {
        Sentences.test("Terms", "A call that throws changes nothing.", TermsEdges::refusedAims,
            TermsEdges::refusedTwelve, TermsEdges::refusedNeeds, TermsEdges::refusedFrees,
            TermsEdges::refusedRevisits, TermsEdges::refusedDays, TermsEdges::refusedQuestions);
        Sentences.test("Terms", "Where two exceptions apply, the one that is listed first is thrown.",
            TermsEdges::firstOfAim, TermsEdges::firstOfNeed, TermsEdges::firstOfFree, TermsEdges::firstOfRevisits);
    }

    /** Four aims with needs, kits and revisits, and two days lost. */
    private static LessonWeave busy() {
        LessonWeave weave = new LessonWeave();
        weave.aim(2, 0, 30, 1);
        weave.aim(1, 1, 20, 1);
        weave.aim(3, 0, 40, NONE);
        weave.aim(1, 2, 5, 1);
        weave.need(0, 3);
        weave.need(2, 1);
        weave.revisits(1, 2, 2);
        weave.revisits(2, 1, 7);
        weave.lose(1);
        weave.lose(8);
        return weave;
    }

    private static void unchanged(LessonWeave weave, Runnable refused) {
        String before = Weaves.state(weave);
        refused.run();
        String after = Weaves.state(weave);
        Checks.holds("that all is as before:\n" + before + "\nand not\n" + after + "\nwhich", before.equals(after));
    }

    private static void refusedAims() {
        LessonWeave weave = busy();
        unchanged(weave, () -> {
            Checks.badArgument("no lessons", () -> weave.aim(0, 0, 1, 0));
            Checks.badArgument("too many lessons", () -> weave.aim(6, 0, 1, 0));
            Checks.badArgument("no such kind", () -> weave.aim(1, 4, 1, 0));
            Checks.badArgument("no worth", () -> weave.aim(1, 0, 0, 0));
            Checks.badArgument("too great a worth", () -> weave.aim(1, 0, 100, 0));
            Checks.badArgument("no such kit", () -> weave.aim(1, 0, 1, 3));
        });
        Checks.equal("the next number", weave.aim(1, 0, 1, 0), 4);
    }

    private static void refusedTwelve() {
        LessonWeave weave = Weaves.chain(12);
        unchanged(weave, () -> Checks.badState("the 13th aim", () -> weave.aim(5, 3, 99, 2)));
    }

    private static void refusedNeeds() {
        LessonWeave weave = busy();
        weave.need(1, 3);
        unchanged(weave, () -> {
            Checks.outside("no such aim", () -> weave.need(4, 0));
            Checks.outside("no such other one", () -> weave.need(0, 4));
            Checks.outside("no such other one", () -> weave.need(0, -1));
            Checks.badArgument("itself", () -> weave.need(3, 3));
            Checks.badState("already", () -> weave.need(0, 3));
            Checks.badState("the other way round", () -> weave.need(3, 0));
            Checks.badState("the other way round, by way of one", () -> weave.need(3, 2));
        });
        Checks.equal("the needs of 0", weave.free(0, 3), 0);
        Checks.equal("the needs of 3", weave.need(3, 0), 1);
    }

    private static void refusedFrees() {
        LessonWeave weave = busy();
        weave.need(1, 3);
        unchanged(weave, () -> {
            Checks.outside("no such aim", () -> weave.free(4, 3));
            Checks.outside("no such other one", () -> weave.free(0, 4));
            Checks.outside("no such other one", () -> weave.free(0, 35));
            Checks.noSuchElement("not by itself", () -> weave.free(2, 3));
            Checks.noSuchElement("the other way round", () -> weave.free(3, 0));
            Checks.noSuchElement("itself", () -> weave.free(0, 0));
        });
        Checks.equal("the needs of 2", weave.need(2, 3), 2);
        Checks.equal("the needs of 0", weave.need(0, 1), 2);
    }

    private static void refusedRevisits() {
        LessonWeave weave = busy();
        unchanged(weave, () -> {
            Checks.outside("no such aim", () -> weave.revisits(4, 1, 1));
            Checks.outside("no such aim", () -> weave.revisits(-1, 1, 1));
            Checks.badArgument("too many, another gap", () -> weave.revisits(1, 4, 5));
            Checks.badArgument("too few, another gap", () -> weave.revisits(1, -1, 5));
            Checks.badArgument("fewer, no gap", () -> weave.revisits(1, 1, 0));
            Checks.badArgument("none, too great a gap", () -> weave.revisits(1, 0, 21));
        });
        Checks.equal("how many it had", weave.revisits(1, 0, 1), 2);
        Checks.equal("how many the next one had", weave.revisits(2, 0, 1), 1);
    }

    private static void refusedDays() {
        LessonWeave weave = busy();
        unchanged(weave, () -> {
            Checks.outside("no such day", () -> weave.lose(-1));
            Checks.outside("no such day", () -> weave.lose(100));
            Checks.badState("lost already", () -> weave.lose(1));
            Checks.badState("lost already", () -> weave.lose(8));
        });
        Checks.badState("lost still", () -> weave.lose(1));
        Checks.badState("lost still", () -> weave.lose(8));
    }

    private static void refusedQuestions() {
        LessonWeave weave = busy();
        unchanged(weave, () -> {
            Checks.outside("allNeeds", () -> weave.allNeeds(4));
            Checks.outside("ordered", () -> weave.ordered(4));
            Checks.outside("on", () -> weave.on(100));
            Checks.outside("lessonDay", () -> weave.lessonDay(4, 0));
            Checks.outside("lessonDay", () -> weave.lessonDay(1, 1));
            Checks.outside("revisitDay", () -> weave.revisitDay(4, 0));
            Checks.outside("revisitDay", () -> weave.revisitDay(1, 2));
            Checks.badArgument("worthwhile", () -> weave.worthwhile(100));
            Checks.badArgument("bestNet", () -> weave.bestNet(-1));
        });
    }

    private static void firstOfAim() {
        LessonWeave weave = Weaves.withAims(12);
        Checks.badArgument("lessons, and 12 aims", () -> weave.aim(6, 0, 1, 0));
        Checks.badArgument("a kind, and 12 aims", () -> weave.aim(1, -1, 1, 0));
        Checks.badArgument("a worth, and 12 aims", () -> weave.aim(1, 0, 100, 0));
        Checks.badArgument("a kit, and 12 aims", () -> weave.aim(1, 0, 1, -2));
        Checks.badState("12 aims alone", () -> weave.aim(1, 0, 1, 0));
    }

    private static void firstOfNeed() {
        LessonWeave none = new LessonWeave();
        Checks.outside("the same, and no such aim", () -> none.need(0, 0));
        LessonWeave weave = Weaves.withAims(12);
        Checks.outside("the same, and no such aim", () -> weave.need(12, 12));
        Checks.outside("the same, and no such aim", () -> weave.need(-1, -1));
        Checks.badArgument("the same alone", () -> weave.need(11, 11));
    }

    private static void firstOfFree() {
        LessonWeave weave = Weaves.withAims(2);
        Checks.outside("not needed, and no such aim", () -> weave.free(2, 0));
        Checks.outside("not needed, and no such other one", () -> weave.free(0, 2));
        Checks.outside("not needed, and neither of them", () -> weave.free(-1, -1));
        Checks.noSuchElement("not needed alone", () -> weave.free(0, 1));
    }

    private static void firstOfRevisits() {
        LessonWeave weave = Weaves.withAims(2);
        Checks.outside("too many, and no such aim", () -> weave.revisits(2, 4, 1));
        Checks.outside("no gap, and no such aim", () -> weave.revisits(-1, 1, 0));
        Checks.outside("all three", () -> weave.revisits(12, -1, 21));
        Checks.badArgument("too many alone", () -> weave.revisits(1, 4, 1));
    }

    // ---- the constants

    private static void constants() {
        Sentences.test("Terms", "The constants: `NONE = -1`: None.", () -> {
            Checks.equal("NONE", LessonWeave.NONE, -1);
            Checks.equal("no last day", new LessonWeave().lastDay(), -1);
            Checks.equal("nothing on a day", new LessonWeave().on(0), -1);
            Checks.equal("no kit", new LessonWeave().aim(1, 0, 1, -1), 0);
        });
        Sentences.test("Terms",
            "`REVISIT = 100`: What lies on a day, besides lessons (0 to 11, the number of the aim): a revisit is told "
                + "as REVISIT and the number of the aim together.",
            TermsEdges::lessonsAndRevisitsOfEachAim);
    }

    private static void lessonsAndRevisitsOfEachAim() {
        Checks.equal("REVISIT", LessonWeave.REVISIT, 100);
        LessonWeave weave = Weaves.withAims(12);
        for (int k = 0; k < 12; k++) {
            weave.revisits(k, 1, 12);
        }
        for (int k = 0; k < 12; k++) {
            Checks.equal("a lesson of the aim " + k, weave.on(k), k);
            Checks.equal("a revisit of the aim " + k, weave.on(12 + k), 100 + k);
        }
    }
}
