/** The sentences of the promises 16 to 18: closed sets and their nets. */
final class SetsEdges {
    private static final int NONE = Weaves.NONE;

    private SetsEdges() {
    }

    static void run() {
        worthwhile();
        bestNet();
        Sentences.test("Promise 18", "Returns how many closed sets there are, the empty one among them.",
            SetsEdges::emptyOneAlone, SetsEdges::withoutNeeds, SetsEdges::chains, SetsEdges::stars,
            SetsEdges::needsGoneAgain);
    }

    /** The aims with these worths and, from the middle on, these lessons. */
    private static LessonWeave ofWorths(int... worthsAndLessons) {
        LessonWeave weave = new LessonWeave();
        int many = worthsAndLessons.length / 2;
        for (int k = 0; k < many; k++) {
            weave.aim(worthsAndLessons[many + k], 0, worthsAndLessons[k], NONE);
        }
        return weave;
    }

    private static void best(LessonWeave weave, int price, int set, int net) {
        Checks.equal("worthwhile(" + price + ")", weave.worthwhile(price), set);
        Checks.equal("bestNet(" + price + ")", weave.bestNet(price), net);
    }

    // ---- promise 16

    private static void worthwhile() {
        Sentences.test("Promise 16",
            "Returns the closed set of aims with the greatest net; of several the one with the fewest aims.",
            SetsEdges::emptyOrAll, SetsEdges::fewestOfSeveral, SetsEdges::fewestOfSeveralWithNeeds,
            SetsEdges::needsAreCarried);
        Sentences.test("Promise 16", "(There is one alone with so few.)", SetsEdges::oneAlone);
        Sentences.test("Promise 16", "- `price`: the price of a lesson, 0 to 99", () -> {
            LessonWeave weave = ofWorths(99, 50, 1, 1, 1, 1);
            for (int price = 0; price <= 99; price++) {
                int set = (price < 99 ? 1 : 0) | (price < 50 ? 2 : 0) | (price < 1 ? 4 : 0);
                Checks.equal("worthwhile(" + price + ")", weave.worthwhile(price), set);
            }
            Weaves.badArguments("worthwhile", Weaves.beside(0, 99), weave::worthwhile);
        });
        Sentences.test("Promise 16", "Returns the set.", () -> {
            LessonWeave weave = Weaves.withAims(11);
            weave.aim(1, 0, 99, NONE);
            Checks.equal("the highest bit alone", weave.worthwhile(10), 0x800);
            weave.need(11, 0);
            Checks.equal("and the lowest one", weave.worthwhile(10), 0x801);
            Checks.equal("all bits", weave.worthwhile(9), 0xFFF);
        });
        Sentences.test("Promise 16", "Throws `IllegalArgumentException` if price is out of its range", () -> {
            LessonWeave none = new LessonWeave();
            Weaves.badArguments("worthwhile, without aims", Weaves.beside(0, 99), none::worthwhile);
            LessonWeave all = Weaves.withAims(12);
            Weaves.badArguments("worthwhile, with all", Weaves.beside(0, 99), all::worthwhile);
            Checks.equal("the least price", all.worthwhile(0), 0xFFF);
            Checks.equal("the greatest price", all.worthwhile(99), 0);
        });
    }

    private static void emptyOrAll() {
        best(new LessonWeave(), 0, 0, 0);
        best(new LessonWeave(), 99, 0, 0);
        best(Weaves.withAims(12), 9, 0xFFF, 12);
        best(Weaves.withAims(12), 10, 0, 0);
        best(Weaves.chain(12), 9, 0xFFF, 12);
        best(Weaves.chain(12), 10, 0, 0);
    }

    private static void fewestOfSeveral() {
        LessonWeave weave = ofWorths(10, 20, 30, 1, 1, 1);
        best(weave, 9, 0b111, 33);
        best(weave, 10, 0b110, 30);
        best(weave, 20, 0b100, 10);
        best(weave, 30, 0, 0);
    }

    private static void fewestOfSeveralWithNeeds() {
        LessonWeave weave = ofWorths(10, 20, 30, 1, 1, 1);
        weave.need(2, 0);
        best(weave, 10, 0b111, 30);
        best(weave, 20, 0, 0);
        weave.need(0, 1);
        best(weave, 19, 0b111, 3);
        best(weave, 20, 0, 0);
        LessonWeave two = ofWorths(5, 15, 15, 5, 1, 1, 1, 1);
        two.need(1, 0);
        two.need(2, 3);
        best(two, 10, 0, 0);
        best(two, 9, 0b1111, 4);
        two.free(2, 3);
        best(two, 10, 0b0100, 5);
    }

    private static void needsAreCarried() {
        LessonWeave weave = ofWorths(1, 20, 20, 4, 1, 1);
        weave.need(1, 0);
        weave.need(2, 0);
        best(weave, 6, 0b111, 1 - 24 + 14 + 14);
        best(weave, 7, 0, 0);
        weave.free(2, 0);
        best(weave, 6, 0b100, 14);
        best(weave, 4, 0b111, 1 - 16 + 16 + 16);
    }

    /** Of all sets tried here, as many as have the greatest net and the fewest aims: one, and it is told. */
    private static void oneAlone() {
        int[][] needs = {{0, 1}, {0, 2}, {3, 1}, {3, 4}, {4, 2}};
        LessonWeave weave = ofWorths(12, 3, 7, 9, 5, 2, 1, 3, 1, 2);
        int[] needed = new int[5];
        for (int[] need : needs) {
            for (int price = 0; price <= 15; price++) {
                int[] counted = triedAt(price, needed);
                Checks.equal("sets of the greatest net and the fewest aims at " + price, counted[2], 1);
                best(weave, price, counted[0], counted[1]);
            }
            weave.need(need[0], need[1]);
            needed[need[0]] |= 1 << need[1];
        }
    }

    /** The best set, its net, and how many are as good. */
    private static int[] triedAt(int price, int[] needed) {
        int[] worths = {12, 3, 7, 9, 5};
        int[] lessons = {2, 1, 3, 1, 2};
        int[] best = {0, 0, 0};
        for (int set = 0; set < 32; set++) {
            int net = 0;
            boolean isClosed = true;
            for (int k = 0; k < 5; k++) {
                if ((set & 1 << k) != 0) {
                    net += worths[k] - price * lessons[k];
                    isClosed &= (needed[k] & set) == needed[k];
                }
            }
            int fewer = Integer.bitCount(best[0]) - Integer.bitCount(set);
            if (isClosed && net == best[1] && fewer == 0) {
                best[2]++;
            } else if (isClosed && (net > best[1] || net == best[1] && fewer > 0)) {
                best = new int[] {set, net, 1};
            }
        }
        return best;
    }

    // ---- promise 17

    private static void bestNet() {
        Sentences.test("Promise 17", "Returns the greatest net of a closed set, told by trying all sets.",
            SetsEdges::greatestOfAll, SetsEdges::carriedByAllTogether);
        Sentences.test("Promise 17", "- `price`: the price of a lesson, 0 to 99", () -> {
            LessonWeave weave = ofWorths(99, 99, 1, 5);
            for (int price = 0; price <= 99; price++) {
                int net = 99 - price + Math.max(0, 99 - 5 * price);
                Checks.equal("bestNet(" + price + ")", weave.bestNet(price), net);
            }
            Weaves.badArguments("bestNet", Weaves.beside(0, 99), weave::bestNet);
        });
        Sentences.test("Promise 17", "Returns the net; at least 0, as the empty set is closed.", () -> {
            Checks.equal("without aims", new LessonWeave().bestNet(0), 0);
            LessonWeave weave = ofWorths(1, 1, 5, 5);
            Checks.equal("at a price of 0", weave.bestNet(0), 2);
            Checks.equal("all below 0", weave.bestNet(1), 0);
            Checks.equal("all far below 0", weave.bestNet(99), 0);
            LessonWeave one = ofWorths(20, 4);
            Checks.equal("just above 0", one.bestNet(4), 4);
            Checks.equal("0 itself", one.bestNet(5), 0);
            Checks.equal("just below 0", one.bestNet(6), 0);
        });
        Sentences.test("Promise 17", "Throws `IllegalArgumentException` if price is out of its range", () -> {
            LessonWeave none = new LessonWeave();
            Weaves.badArguments("bestNet, without aims", Weaves.beside(0, 99), none::bestNet);
            LessonWeave all = Weaves.withAims(12);
            Weaves.badArguments("bestNet, with all", Weaves.beside(0, 99), all::bestNet);
            Checks.equal("the least price", all.bestNet(0), 120);
            Checks.equal("the greatest price", all.bestNet(99), 0);
        });
    }

    private static void greatestOfAll() {
        LessonWeave weave = new LessonWeave();
        for (int k = 0; k < 12; k++) {
            weave.aim(1 + k % 5, k % 4, 99 - k, k % 4 - 1);
        }
        for (int price = 0; price <= 99; price++) {
            int net = 0;
            for (int k = 0; k < 12; k++) {
                net += Math.max(0, 99 - k - price * (1 + k % 5));
            }
            Checks.equal("bestNet(" + price + ")", weave.bestNet(price), net);
        }
    }

    /** The aim 11 has a net far below 0; of those that need it, all are wanted to carry it. */
    private static void carriedByAllTogether() {
        LessonWeave weave = Weaves.withAims(11);
        weave.aim(5, 0, 1, NONE);
        for (int k = 0; k < 11; k++) {
            weave.need(k, 11);
        }
        Checks.equal("bestNet(6)", weave.bestNet(6), 11 * 4 + 1 - 30);
        Checks.equal("bestNet(7)", weave.bestNet(7), 0);
        weave.free(0, 11);
        Checks.equal("one goes without it, bestNet(6)", weave.bestNet(6), 11 * 4 + 1 - 30);
        Checks.equal("one goes without it, bestNet(7)", weave.bestNet(7), 3);
    }

    // ---- promise 18

    private static void emptyOneAlone() {
        LessonWeave weave = new LessonWeave();
        Checks.equal("without aims", weave.closedSets(), 1);
        Checks.badArgument("no aim", () -> weave.aim(0, 0, 1, 0));
        Checks.equal("still without aims", weave.closedSets(), 1);
    }

    private static void withoutNeeds() {
        for (int many = 0; many <= 12; many++) {
            Checks.equal(many + " aims", Weaves.withAims(many).closedSets(), 1 << many);
        }
    }

    private static void chains() {
        for (int many = 1; many <= 12; many++) {
            LessonWeave weave = Weaves.chain(many);
            Checks.equal("a chain of " + many, weave.closedSets(), many + 1);
            if (many > 2) {
                weave.need(0, many - 1);
                Checks.equal("and what it needs by way of others, by itself", weave.closedSets(), many + 1);
            }
        }
    }

    private static void stars() {
        LessonWeave all = Weaves.withAims(12);
        LessonWeave one = Weaves.withAims(12);
        for (int k = 1; k < 12; k++) {
            all.need(0, k);
            one.need(k, 0);
            Checks.equal("0 needs " + k + " others", all.closedSets(), (1 << 11) + (1 << 11 - k));
            Checks.equal(k + " others need 0", one.closedSets(), (1 << 11) + (1 << 11 - k));
        }
    }

    private static void needsGoneAgain() {
        LessonWeave weave = Weaves.chain(3);
        weave.free(0, 1);
        Checks.equal("one need", weave.closedSets(), 6);
        weave.free(1, 2);
        Checks.equal("no need", weave.closedSets(), 8);
    }
}
