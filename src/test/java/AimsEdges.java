/** The sentences of the promises 1 to 8: the aims, their needs, and their order. */
final class AimsEdges {
    private static final int NONE = Weaves.NONE;

    private AimsEdges() {
    }

    static void run() {
        Sentences.test("Promise 1", "A planner without aims; no day is lost.",
            AimsEdges::withoutAims, AimsEdges::noDayIsLost);
        aim();
        need();
        free();
        revisits();
        Sentences.test("Promise 6", "Returns the number of aims.", AimsEdges::numberOfAims);
        allNeeds();
        ordered();
    }

    // ---- promise 1

    private static void withoutAims() {
        LessonWeave weave = new LessonWeave();
        Checks.equal("aims()", weave.aims(), 0);
        Weaves.days(weave);
        Checks.equal("laid()", weave.laid(), 0);
        Checks.equal("late()", weave.late(), 0);
        Checks.equal("lastDay()", weave.lastDay(), NONE);
        Checks.equal("worthwhile(0)", weave.worthwhile(0), 0);
        Checks.equal("bestNet(0)", weave.bestNet(0), 0);
        Checks.equal("closedSets()", weave.closedSets(), 1);
        Checks.outside("allNeeds(0)", () -> weave.allNeeds(0));
        Checks.outside("ordered(0)", () -> weave.ordered(0));
        Checks.outside("need(0, 1)", () -> weave.need(0, 1));
        Checks.outside("free(0, 1)", () -> weave.free(0, 1));
        Checks.outside("revisits(0, 0, 1)", () -> weave.revisits(0, 0, 1));
        Checks.outside("lessonDay(0, 0)", () -> weave.lessonDay(0, 0));
        Checks.outside("revisitDay(0, 0)", () -> weave.revisitDay(0, 0));
    }

    private static void noDayIsLost() {
        LessonWeave before = Weaves.withAims(1);
        Weaves.loseAll(before, 0, 99);
        LessonWeave weave = new LessonWeave();
        for (int day = 0; day < 100; day++) {
            Checks.equal("lose(" + day + ")", weave.lose(day), 0);
        }
        Weaves.days(Weaves.withAims(3), 0, 1, 2);
    }

    // ---- promise 2

    private static void aim() {
        Sentences.test("Promise 2", "Adds an aim without needs and revisits.", AimsEdges::aimWithoutNeedsAndRevisits);
        Sentences.test("Promise 2", "- `lessons`: 1 to 5", () -> {
            for (int lessons = 1; lessons <= 5; lessons++) {
                LessonWeave weave = Weaves.ofLessons(lessons);
                int beyond = lessons;
                Checks.equal(lessons + " lessons, the last one", weave.lessonDay(0, lessons - 1), lessons - 1);
                Checks.outside(lessons + " lessons, one more", () -> weave.lessonDay(0, beyond));
            }
            LessonWeave weave = new LessonWeave();
            Weaves.badArguments("lessons", Weaves.beside(1, 5), lessons -> weave.aim(lessons, 0, 1, 0));
            Checks.equal("aims()", weave.aims(), 0);
        });
        Sentences.test("Promise 2", "- `kind`: 0 to 3", () -> {
            Weaves.order(Weaves.ofKinds(3, 0, 2, 1, 0, 1, 2, 3), 0, 7, 1, 4, 2, 6, 3, 5);
            LessonWeave weave = new LessonWeave();
            Weaves.badArguments("kind", Weaves.beside(0, 3), kind -> weave.aim(1, kind, 1, 0));
            Checks.equal("aims()", weave.aims(), 0);
        });
        Sentences.test("Promise 2", "- `worth`: 1 to 99", () -> {
            for (int worth = 1; worth <= 99; worth++) {
                LessonWeave weave = new LessonWeave();
                Checks.equal("a worth of " + worth, weave.aim(1, 0, worth, 0), 0);
                Checks.equal("a worth of " + worth, weave.bestNet(0), worth);
            }
            LessonWeave weave = new LessonWeave();
            Weaves.badArguments("worth", Weaves.beside(1, 99), worth -> weave.aim(1, 0, worth, 0));
            Checks.equal("aims()", weave.aims(), 0);
        });
        Sentences.test("Promise 2", "- `kit`: 0 to 2, or NONE", () -> {
            for (int kit = -1; kit <= 2; kit++) {
                Weaves.days(Weaves.ofKits(kit), 0);
            }
            Weaves.days(Weaves.ofKits(0, 0), 0, NONE, NONE, 1);
            Weaves.days(Weaves.ofKits(2, 2), 0, NONE, NONE, 1);
            Weaves.days(Weaves.ofKits(NONE, NONE), 0, 1);
            LessonWeave weave = new LessonWeave();
            Weaves.badArguments("kit", Weaves.beside(-1, 2), kit -> weave.aim(1, 0, 1, kit));
            Checks.equal("aims()", weave.aims(), 0);
        });
        Sentences.test("Promise 2", "Returns its number.", () -> {
            LessonWeave weave = new LessonWeave();
            for (int k = 0; k < 12; k++) {
                Checks.badArgument("no aim, so no number", () -> weave.aim(1, 0, 0, 0));
                Checks.equal("the number", weave.aim(1 + k % 5, k % 4, 99, NONE), k);
            }
        });
        Sentences.test("Promise 2", "Throws `IllegalArgumentException` if an argument is out of its range", () -> {
            LessonWeave weave = Weaves.withAims(1);
            Checks.badArgument("all of them, below", () -> weave.aim(0, -1, 0, -2));
            Checks.badArgument("all of them, above", () -> weave.aim(6, 4, 100, 3));
            Checks.badArgument("the lessons alone", () -> weave.aim(6, 3, 99, 2));
            Checks.badArgument("the kind alone", () -> weave.aim(5, 4, 99, 2));
            Checks.badArgument("the worth alone", () -> weave.aim(5, 3, 100, 2));
            Checks.badArgument("the kit alone", () -> weave.aim(5, 3, 99, 3));
            Checks.badArgument("the kit alone, below NONE", () -> weave.aim(5, 3, 99, -2));
            Checks.equal("none of them", weave.aim(5, 3, 99, 2), 1);
        });
        Sentences.test("Promise 2", "Throws `IllegalStateException` if there are 12 aims", () -> {
            LessonWeave weave = Weaves.withAims(11);
            Checks.equal("with 11 aims", weave.aim(1, 0, 1, NONE), 11);
            Checks.badState("with 12 aims", () -> weave.aim(1, 0, 1, NONE));
            Checks.badState("with 12 aims still", () -> weave.aim(5, 3, 99, 2));
            Weaves.order(weave, 0, 1, 2, 3, 4, 5, 6, 7, 8, 9, 10, 11);
        });
    }

    private static void aimWithoutNeedsAndRevisits() {
        LessonWeave weave = Weaves.withAims(11);
        for (int k = 0; k < 11; k++) {
            weave.revisits(k, 3, 1);
            if (k > 0) {
                weave.need(k - 1, k);
            }
        }
        int closed = weave.closedSets();
        weave.aim(1, 0, 1, NONE);
        Checks.equal("allNeeds(11)", weave.allNeeds(11), 0);
        Checks.outside("revisitDay(11, 0)", () -> weave.revisitDay(11, 0));
        Checks.noSuchElement("free(11, 0)", () -> weave.free(11, 0));
        Checks.equal("closedSets()", weave.closedSets(), 2 * closed);
        Checks.equal("revisits(11, 0, 1)", weave.revisits(11, 0, 1), 0);
    }

    // ---- promise 3

    private static void need() {
        Sentences.test("Promise 3", "Lets an aim need another one.", () -> {
            for (int k = 0; k < 12; k += 11) {
                LessonWeave weave = Weaves.withAims(12);
                weave.need(k, 11 - k);
                Checks.equal("allNeeds(" + k + ")", weave.allNeeds(k), 1 << 11 - k);
                Checks.equal("allNeeds(" + (11 - k) + ")", weave.allNeeds(11 - k), 0);
                Checks.equal("closedSets()", weave.closedSets(), 3 << 10);
                Checks.equal("the plan follows", weave.lessonDay(11, 0), k == 0 ? 10 : 11);
            }
        });
        Sentences.test("Promise 3", "Returns how many aims it needs then by itself.", () -> {
            LessonWeave weave = Weaves.withAims(12);
            Checks.equal("the first one", weave.need(0, 11), 1);
            for (int k = 1; k < 11; k++) {
                Checks.equal("not those by way of others", weave.need(11, k), k);
            }
            for (int k = 1; k < 11; k++) {
                Checks.equal("by itself, too", weave.need(0, k), k + 1);
            }
        });
        Sentences.test("Promise 3", "Throws `IndexOutOfBoundsException` if there is no such aim", () -> {
            for (int many = 0; many <= 12; many += 6) {
                LessonWeave weave = Weaves.withAims(many);
                int[] none = Weaves.beside(0, many - 1);
                Weaves.allOutside("need(.., 0)", none, k -> weave.need(k, 0));
                Weaves.allOutside("need(0, ..)", none, k -> weave.need(0, k));
                Weaves.allOutside("need of one by itself", none, k -> weave.need(k, k));
                Weaves.allOutside("need(.., 1 more)", none, k -> weave.need(k, k + 1));
            }
            LessonWeave two = Weaves.withAims(2);
            Checks.equal("the last ones that are there", two.need(1, 0), 1);
        });
        Sentences.test("Promise 3", "Throws `IllegalArgumentException` if both are the same", () -> {
            LessonWeave weave = Weaves.chain(12);
            for (int k = 0; k < 12; k++) {
                int aim = k;
                Checks.badArgument("need(" + k + ", " + k + ")", () -> weave.need(aim, aim));
            }
        });
        Sentences.test("Promise 3",
            "Throws `IllegalStateException` if it needs the other one already by itself, or the other one needs it, "
                + "perhaps by way of others",
            AimsEdges::needsItAlready, AimsEdges::otherOneNeedsIt);
    }

    private static void needsItAlready() {
        LessonWeave weave = Weaves.chain(12);
        for (int k = 0; k < 11; k++) {
            int aim = k;
            Checks.badState("need(" + k + ", " + (k + 1) + ")", () -> weave.need(aim, aim + 1));
        }
        Checks.equal("by way of others alone", weave.need(0, 11), 2);
        Checks.badState("now by itself", () -> weave.need(0, 11));
        Checks.equal("free(0, 11)", weave.free(0, 11), 1);
        Checks.equal("no more by itself", weave.need(0, 11), 2);
    }

    private static void otherOneNeedsIt() {
        LessonWeave weave = Weaves.chain(12);
        for (int k = 0; k < 12; k++) {
            for (int other = 0; other < k; other++) {
                int aim = k;
                int above = other;
                Checks.badState("need(" + k + ", " + other + ")", () -> weave.need(aim, above));
            }
        }
        weave.free(5, 6);
        Checks.equal("the way is cut", weave.need(6, 5), 2);
        Checks.badState("it goes the other way round now", () -> weave.need(5, 6));
        Checks.equal("beside the way", weave.need(5, 11), 1);
        Checks.badState("both ways together", () -> weave.need(11, 0));
    }

    // ---- promise 4

    private static void free() {
        Sentences.test("Promise 4", "Lets an aim need another one no more.", () -> {
            LessonWeave weave = Weaves.chain(12);
            weave.free(0, 1);
            Checks.equal("allNeeds(0)", weave.allNeeds(0), 0);
            Checks.equal("allNeeds(1)", weave.allNeeds(1), 0xFFC);
            weave.free(10, 11);
            Checks.equal("allNeeds(1)", weave.allNeeds(1), 0x7FC);
            Checks.equal("closedSets()", weave.closedSets(), 2 * 11 * 2);
            Weaves.order(weave, 0, 10, 9, 8, 7, 6, 5, 4, 3, 2, 1, 11);
            Checks.equal("the plan follows", weave.on(0), 0);
            LessonWeave two = Weaves.chain(3);
            two.need(0, 2);
            two.free(0, 2);
            Checks.equal("by way of others still", two.allNeeds(0), 0b110);
        });
        Sentences.test("Promise 4", "Returns how many aims it needs then by itself.", () -> {
            LessonWeave weave = Weaves.chain(12);
            for (int k = 2; k < 12; k++) {
                weave.need(0, k);
            }
            for (int k = 11; k > 0; k--) {
                Checks.equal("free(0, " + k + ")", weave.free(0, k), k - 1);
            }
            Checks.equal("the last one of the chain", weave.free(10, 11), 0);
        });
        Sentences.test("Promise 4", "Throws `IndexOutOfBoundsException` if there is no such aim", () -> {
            for (int many = 0; many <= 12; many += 6) {
                LessonWeave weave = Weaves.chain(many);
                int[] none = Weaves.beside(0, many - 1);
                Weaves.allOutside("free(.., 1)", none, k -> weave.free(k, 1));
                Weaves.allOutside("free(0, ..)", none, k -> weave.free(0, k));
                Weaves.allOutside("free of one from itself", none, k -> weave.free(k, k));
            }
        });
        Sentences.test("Promise 4",
            "Throws `NoSuchElementException` if it does not need the other one by itself", () -> {
            LessonWeave weave = Weaves.chain(12);
            for (int k = 0; k < 12; k++) {
                int other = k;
                if (k != 1) {
                    Checks.noSuchElement("free(0, " + k + ")", () -> weave.free(0, other));
                }
                Checks.noSuchElement("free(11, " + k + ")", () -> weave.free(11, other));
            }
            weave.free(0, 1);
            Checks.noSuchElement("free(0, 1) again", () -> weave.free(0, 1));
            Checks.noSuchElement("with one aim alone", () -> Weaves.withAims(1).free(0, 0));
        });
    }

    // ---- promise 5

    private static void revisits() {
        Sentences.test("Promise 5", "Sets the revisits of an aim.", () -> {
            LessonWeave weave = Weaves.withAims(12);
            weave.revisits(11, 3, 5);
            Weaves.revisitDays(weave, 11, 16, 26, 46);
            weave.revisits(11, 1, 2);
            Weaves.revisitDays(weave, 11, 13);
            Checks.outside("no second one any more", () -> weave.revisitDay(11, 1));
            Checks.outside("none of the aim ahead", () -> weave.revisitDay(10, 0));
            weave.revisits(11, 0, 2);
            Checks.equal("laid()", weave.laid(), 12);
        });
        Sentences.test("Promise 5", "- `many`: 0 to 3", () -> {
            LessonWeave weave = Weaves.withAims(1);
            for (int many = 0; many <= 3; many++) {
                int beyond = many;
                weave.revisits(0, many, 1);
                Checks.equal(many + " revisits and a lesson", weave.laid(), many + 1);
                Checks.outside("one beyond", () -> weave.revisitDay(0, beyond));
            }
            Weaves.badArguments("many", Weaves.beside(0, 3), many -> weave.revisits(0, many, 1));
            Weaves.revisitDays(weave, 0, 1, 3, 7);
        });
        Sentences.test("Promise 5", "- `gap`: 1 to 20", () -> {
            LessonWeave weave = Weaves.withAims(1);
            for (int gap = 1; gap <= 20; gap++) {
                weave.revisits(0, 2, gap);
                Weaves.revisitDays(weave, 0, gap, 3 * gap);
            }
            Weaves.badArguments("gap", Weaves.beside(1, 20), gap -> weave.revisits(0, 1, gap));
            Weaves.badArguments("gap of no revisits", Weaves.beside(1, 20), gap -> weave.revisits(0, 0, gap));
            Weaves.revisitDays(weave, 0, 20, 60);
        });
        Sentences.test("Promise 5", "Returns how many it had.", () -> {
            LessonWeave weave = Weaves.withAims(2);
            int had = 0;
            for (int many : new int[] {0, 1, 2, 3, 3, 2, 0, 3, 1, 0}) {
                Checks.equal("revisits(1, " + many + ", 20)", weave.revisits(1, many, 20), had);
                had = many;
            }
            weave.revisits(1, 3, 20);
            Checks.equal("of the other aim", weave.revisits(0, 0, 1), 0);
            Weaves.loseAll(weave, 0, 99);
            Checks.equal("those that are not laid, too", weave.revisits(1, 0, 1), 3);
        });
        Sentences.test("Promise 5", "Throws `IndexOutOfBoundsException` if there is no such aim", () -> {
            for (int many = 0; many <= 12; many += 4) {
                LessonWeave weave = Weaves.withAims(many);
                Weaves.allOutside("revisits", Weaves.beside(0, many - 1), k -> weave.revisits(k, 1, 1));
                Checks.equal("laid()", weave.laid(), many);
            }
            Checks.equal("the last one", Weaves.withAims(12).revisits(11, 1, 1), 0);
        });
        Sentences.test("Promise 5", "Throws `IllegalArgumentException` if many or gap is out of its range", () -> {
            LessonWeave weave = Weaves.withAims(1);
            Checks.badArgument("many alone, below", () -> weave.revisits(0, -1, 1));
            Checks.badArgument("many alone, above", () -> weave.revisits(0, 4, 20));
            Checks.badArgument("gap alone, below", () -> weave.revisits(0, 3, 0));
            Checks.badArgument("gap alone, above", () -> weave.revisits(0, 0, 21));
            Checks.badArgument("both of them", () -> weave.revisits(0, 4, 21));
            Checks.equal("none of them", weave.revisits(0, 3, 20), 0);
        });
    }

    // ---- promises 6 to 8

    private static void numberOfAims() {
        LessonWeave weave = new LessonWeave();
        for (int many = 0; many < 12; many++) {
            Checks.equal("aims()", weave.aims(), many);
            weave.aim(1, 0, 1, NONE);
        }
        Checks.equal("aims()", weave.aims(), 12);
        Checks.badState("a 13th aim", () -> weave.aim(1, 0, 1, NONE));
        Checks.equal("aims()", weave.aims(), 12);
    }

    private static void allNeeds() {
        Sentences.test("Promise 7", "Returns all that an aim needs, by itself or by way of others.", () -> {
            LessonWeave down = Weaves.chain(12);
            LessonWeave up = Weaves.withAims(12);
            for (int k = 11; k > 0; k--) {
                up.need(k, k - 1);
            }
            for (int k = 0; k < 12; k++) {
                Checks.equal("down, allNeeds(" + k + ")", down.allNeeds(k), 0xFFF & -2 << k);
                Checks.equal("up, allNeeds(" + k + ")", up.allNeeds(k), (1 << k) - 1);
            }
            down.free(5, 6);
            Checks.equal("a way that is cut", down.allNeeds(0), 0b111110);
        });
        Sentences.test("Promise 7", "Returns the set.", () -> {
            LessonWeave weave = Weaves.withAims(12);
            Checks.equal("the empty one", weave.allNeeds(11), 0);
            weave.need(11, 0);
            Checks.equal("the lowest bit", weave.allNeeds(11), 1);
            weave.need(0, 10);
            Checks.equal("and the highest one", weave.allNeeds(11), 0x401);
        });
        Sentences.test("Promise 7", "Throws `IndexOutOfBoundsException` if there is no such aim", () -> {
            for (int many = 0; many <= 12; many++) {
                LessonWeave weave = Weaves.withAims(many);
                Weaves.allOutside("allNeeds", Weaves.beside(0, many - 1), weave::allNeeds);
                Checks.outside("one too many of " + many, () -> weave.allNeeds(weave.aims()));
            }
            Checks.equal("the last one", Weaves.withAims(12).allNeeds(11), 0);
        });
    }

    private static void ordered() {
        Sentences.test("Promise 8", "Returns an aim of the order.", () -> {
            LessonWeave weave = Weaves.ofKinds(3, 0, 3, 0);
            Weaves.order(weave, 0, 2, 1, 3);
            weave.aim(1, 3, 1, NONE);
            Weaves.order(weave, 0, 2, 4, 1, 3);
            weave.need(0, 3);
            Weaves.order(weave, 1, 3, 0, 2, 4);
            weave.free(0, 3);
            Weaves.order(weave, 0, 2, 4, 1, 3);
        });
        Sentences.test("Promise 8", "- `place`: 0 for the first one", () -> {
            Checks.equal("of one", Weaves.withAims(1).ordered(0), 0);
            Checks.equal("of twelve", Weaves.chain(12).ordered(0), 11);
            Checks.outside("ahead of it", () -> Weaves.chain(12).ordered(-1));
        });
        Sentences.test("Promise 8", "Returns the aim.", () -> {
            LessonWeave weave = Weaves.chain(12);
            for (int place = 0; place < 12; place++) {
                Checks.equal("ordered(" + place + ")", weave.ordered(place), 11 - place);
            }
        });
        Sentences.test("Promise 8", "Throws `IndexOutOfBoundsException` if there are not so many aims", () -> {
            for (int many = 0; many <= 12; many++) {
                LessonWeave weave = Weaves.withAims(many);
                Weaves.allOutside("ordered", Weaves.beside(0, many - 1), weave::ordered);
                for (int place = many; place < 14; place++) {
                    int beyond = place;
                    Checks.outside("ordered(" + place + ") of " + many, () -> weave.ordered(beyond));
                }
            }
            Checks.equal("the last place", Weaves.withAims(12).ordered(11), 11);
        });
    }
}
