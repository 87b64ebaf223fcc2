/** Promises 14 to 17: one test for each sentence that names a boundary, and for each throw. */
public final class SwapsAndLoansTest extends Check {
    private static final int[] NO_DAYS = {0, 51, -1, LEAST, MOST};

    private SwapsAndLoansTest() {
    }

    public static void main(String[] args) {
        swapTests();
        agreeTests();
        cancelSwapTests();
        lendTests();
        end();
    }

    private static void swapTests() {
        test("Promise 14: the card is SWAPPING then", SwapsAndLoansTest::swapStates);
        test("Promise 14: the other one in any state", SwapsAndLoansTest::swapForAnyState);
        test("Promise 14: the other one with more swaps", SwapsAndLoansTest::swapTwoForOne);
        test("Promise 14: the first and the last card", SwapsAndLoansTest::swapFirstAndLast);
        test("Promise 14: IndexOutOfBounds of the card", SwapsAndLoansTest::swapCards);
        test("Promise 14: IndexOutOfBounds of the other one", SwapsAndLoansTest::swapOthers);
        test("Promise 14: IllegalArgument if both have the same owner", SwapsAndLoansTest::swapSameOwner);
        test("Promise 14: IllegalState if the card is not FREE", SwapsAndLoansTest::swapNotFree);
        test("Promise 14: which throw comes first", SwapsAndLoansTest::swapFirst);
    }

    private static void agreeTests() {
        test("Promise 15: both change their owners and are FREE", SwapsAndLoansTest::agreeChanges);
        test("Promise 15: returns the other card", SwapsAndLoansTest::agreeReturns);
        test("Promise 15: the swap is gone then", SwapsAndLoansTest::agreeOnce);
        test("Promise 15: IndexOutOfBounds of the card", SwapsAndLoansTest::agreeCards);
        test("Promise 15: IllegalState if the card is not SWAPPING", SwapsAndLoansTest::agreeNotSwapping);
        test("Promise 15: IllegalState if the other one is OFFERED", SwapsAndLoansTest::agreeOffered);
        test("Promise 15: IllegalState if the other one is SWAPPING", SwapsAndLoansTest::agreeSwapping);
        test("Promise 15: IllegalState if the other one is LENT", SwapsAndLoansTest::agreeLent);
        test("Promise 15: IllegalState if both have the same owner by now", SwapsAndLoansTest::agreeSameOwner);
        test("Promise 15: the same owner by now, and no more then", SwapsAndLoansTest::agreeSameOwnerNoMore);
        test("Promise 15: another owner by now", SwapsAndLoansTest::agreeAnotherOwner);
    }

    private static void cancelSwapTests() {
        test("Promise 16: the card is FREE then", SwapsAndLoansTest::cancelSwap);
        test("Promise 16: IndexOutOfBounds of the card", SwapsAndLoansTest::cancelSwapCards);
        test("Promise 16: IllegalState if it is not SWAPPING", SwapsAndLoansTest::cancelSwapNotSwapping);
    }

    private static void lendTests() {
        test("Promise 17: to another player", SwapsAndLoansTest::lendToEach);
        test("Promise 17: comes back when so many days have passed", SwapsAndLoansTest::lendBack);
        test("Promise 17: comes back, days passed over", SwapsAndLoansTest::lendBackOver);
        test("Promise 17: each comes back on its own day", SwapsAndLoansTest::lendManyBack);
        test("Promise 17: days, 1 to 50", SwapsAndLoansTest::lendDays);
        test("Promise 17: returns the day on which it comes back", SwapsAndLoansTest::lendReturns);
        test("Promise 17: the last card of thirty", SwapsAndLoansTest::lendLast);
        test("Promise 17: IndexOutOfBounds of the card", SwapsAndLoansTest::lendCards);
        test("Promise 17: IndexOutOfBounds of the player", SwapsAndLoansTest::lendPlayers);
        test("Promise 17: IllegalArgument if days is out of range", SwapsAndLoansTest::lendNoDays);
        test("Promise 17: IllegalArgument if the player is the owner", SwapsAndLoansTest::lendOwner);
        test("Promise 17: IllegalState if it is not FREE", SwapsAndLoansTest::lendNotFree);
        test("Promise 17: which throw comes first", SwapsAndLoansTest::lendFirst);
    }

    /**
     * Cards 0 to 3 of the player 0: FREE, OFFERED, SWAPPING for 4, and LENT to 2 for two days; cards 4 and 5 of the
     * player 1, FREE. The kinds are the numbers.
     */
    private static Trumpvault fourStates() {
        Trumpvault x = new Trumpvault();
        for (int card = 0; card < 6; card++) {
            x.mint(card < 4 ? 0 : 1, card);
        }
        x.sell(1, 30);
        x.swap(2, 4);
        x.lend(3, 2, 2);
        return x;
    }

    /** Card 0 of the player 0 is told for a swap with card 1 of the player 1. */
    private static Trumpvault told() {
        Trumpvault x = Worlds.oneEach();
        x.swap(0, 1);
        return x;
    }

    private static void swapStates() {
        Trumpvault x = Worlds.oneEach();
        x.swap(3, 1);
        dueCard("told", x, 3, 3, 3, SWAPPING);
        dueFree("the other one", x, 1, 1);
        for (int card : new int[] {0, 2, 4}) {
            dueFree("another one", x, card, card);
        }
    }

    private static void swapForAnyState() {
        for (int other = 0; other < 4; other++) {
            Trumpvault x = fourStates();
            int state = x.stateOf(other);
            x.swap(5, other);
            due("the card", x.stateOf(5), SWAPPING);
            due("the other one", x.stateOf(other), state);
        }
    }

    private static void swapTwoForOne() {
        Trumpvault x = Worlds.oneEach();
        x.swap(0, 2);
        x.swap(1, 2);
        due("the first told", x.stateOf(0), SWAPPING);
        due("the second told", x.stateOf(1), SWAPPING);
        x.swap(2, 0);
        due("the other one told, too", x.stateOf(2), SWAPPING);
    }

    private static void swapFirstAndLast() {
        Trumpvault x = new Trumpvault();
        for (int card = 0; card < 30; card++) {
            x.mint(card % 5, 0);
        }
        x.swap(29, 0);
        due("agree to the last", x.agree(29), 0);
        x.swap(0, 29);
        due("agree to the first", x.agree(0), 29);
        dueFree("back again", x, 0, 0);
        dueFree("back again", x, 29, 4);
    }

    private static void swapCards() {
        for (int card : new int[] {-1, 13, 30, LEAST, MOST}) {
            refused("swap", INDEX, Worlds::busy, x -> x.swap(card, 7));
        }
        refused("swap of the 31st", INDEX, Worlds::full, x -> x.swap(30, 0));
    }

    private static void swapOthers() {
        for (int other : new int[] {-1, 13, 30, LEAST, MOST}) {
            refused("swap", INDEX, Worlds::busy, x -> x.swap(7, other));
        }
        refused("swap for the 31st", INDEX, Worlds::full, x -> x.swap(0, 30));
    }

    private static void swapSameOwner() {
        refused("swap for itself amid all", ARGUMENT, Worlds::busy, x -> x.swap(7, 7));
        refused("swap of an owner with himself amid all", ARGUMENT, Worlds::busy, x -> x.swap(0, 11));
        refused("swap for itself", ARGUMENT, SwapsAndLoansTest::fourStates, x -> x.swap(0, 0));
        refused("swap of an owner with himself", ARGUMENT, SwapsAndLoansTest::fourStates, x -> x.swap(4, 5));
        refused("swap with a card lent away", ARGUMENT, SwapsAndLoansTest::fourStates, x -> x.swap(0, 3));
        World bought = () -> {
            Trumpvault x = fourStates();
            x.bid(1, 1, 30);
            return x;
        };
        refused("swap with a card bought since", ARGUMENT, bought, x -> x.swap(4, 1));
        Trumpvault x = bought.make();
        x.swap(0, 1);
        due("swap with a card sold since", x.stateOf(0), SWAPPING);
        Trumpvault y = Worlds.oneEach();
        y.lend(1, 0, 1);
        y.swap(0, 1);
        due("swap with a card that one holds and another owns", y.stateOf(0), SWAPPING);
    }

    private static void swapNotFree() {
        for (int card : new int[] {1, 2, 3, 4, 9, 10, 12}) {
            int other = card == 1 || card == 12 ? 0 : 6;
            refused("swap of " + card + " amid all", STATE, Worlds::busy, x -> x.swap(card, other));
        }
        refused("swap of an OFFERED card", STATE, SwapsAndLoansTest::fourStates, x -> x.swap(1, 4));
        refused("swap of a SWAPPING card", STATE, SwapsAndLoansTest::fourStates, x -> x.swap(2, 5));
        refused("swap of a SWAPPING card again", STATE, SwapsAndLoansTest::fourStates, x -> x.swap(2, 4));
        refused("swap of a LENT card", STATE, SwapsAndLoansTest::fourStates, x -> x.swap(3, 4));
        Trumpvault x = fourStates();
        x.cancelSale(1);
        x.swap(1, 4);
        due("swap after cancelSale", x.stateOf(1), SWAPPING);
        x.cancelSwap(2);
        x.swap(2, 5);
        due("swap after cancelSwap", x.agree(2), 5);
        x.pass(1);
        refused("swap the day before it comes back", STATE, x, y -> y.swap(3, 4));
        x.pass(1);
        x.swap(3, 4);
        due("swap when it has come back", x.stateOf(3), SWAPPING);
    }

    private static void swapFirst() {
        for (int none : new int[] {-1, 6, 30, LEAST, MOST}) {
            refused("neither card", INDEX, SwapsAndLoansTest::fourStates, x -> x.swap(none, none));
            for (int i = 1; i < 4; i++) {
                int card = i;
                refused("no other, not FREE", INDEX, SwapsAndLoansTest::fourStates, x -> x.swap(card, none));
            }
        }
        for (int i = 1; i < 4; i++) {
            int card = i;
            refused("same owner, not FREE", ARGUMENT, SwapsAndLoansTest::fourStates, x -> x.swap(card, 0));
            refused("itself, not FREE", ARGUMENT, SwapsAndLoansTest::fourStates, x -> x.swap(card, card));
        }
    }

    private static void agreeChanges() {
        for (int card = 0; card < 5; card++) {
            for (int other = 0; other < 5; other++) {
                if (card == other) {
                    continue;
                }
                Trumpvault x = Worlds.oneEach();
                x.swap(card, other);
                x.agree(card);
                for (int any = 0; any < 5; any++) {
                    dueFree("after agree", x, any, any == card ? other : any == other ? card : any);
                    due("coins", x.coins(any), 100);
                }
            }
        }
    }

    private static void agreeReturns() {
        Trumpvault x = Worlds.oneEach();
        x.swap(4, 0);
        x.swap(2, 3);
        due("the first card", x.agree(4), 0);
        due("another card", x.agree(2), 3);
        x.swap(0, 4);
        due("the last card", x.agree(0), 4);
        x.swap(0, 1);
        x.cancelSwap(0);
        x.swap(0, 2);
        due("the card of the later swap", x.agree(0), 2);
    }

    private static void agreeOnce() {
        World once = () -> {
            Trumpvault x = told();
            x.agree(0);
            return x;
        };
        refused("agree again", STATE, once, x -> x.agree(0));
        refused("agree to the other one", STATE, once, x -> x.agree(1));
        refused("cancelSwap", STATE, once, x -> x.cancelSwap(0));
    }

    private static void agreeCards() {
        for (int card : new int[] {-1, 13, 30, LEAST, MOST}) {
            refused("agree", INDEX, Worlds::busy, x -> x.agree(card));
        }
        refused("agree to the 31st", INDEX, Worlds::full, x -> x.agree(30));
        due("agree to one of the last", Worlds.full().agree(28), 0);
    }

    private static void agreeNotSwapping() {
        for (int card : new int[] {0, 1, 2, 4, 11, 12}) {
            refused("agree to " + card + " amid all", STATE, Worlds::busy, x -> x.agree(card));
        }
        refused("agree to a FREE card", STATE, SwapsAndLoansTest::fourStates, x -> x.agree(0));
        refused("agree to an OFFERED card", STATE, SwapsAndLoansTest::fourStates, x -> x.agree(1));
        refused("agree to a LENT card", STATE, SwapsAndLoansTest::fourStates, x -> x.agree(3));
        refused("agree to the other card", STATE, SwapsAndLoansTest::fourStates, x -> x.agree(4));
        due("agree to a SWAPPING card", fourStates().agree(2), 4);
        World back = () -> {
            Trumpvault x = told();
            x.cancelSwap(0);
            return x;
        };
        refused("agree to a swap taken back", STATE, back, x -> x.agree(0));
        World sold = () -> {
            Trumpvault x = back.make();
            x.sell(0, 5);
            return x;
        };
        refused("agree to a swap taken back, the card OFFERED", STATE, sold, x -> x.agree(0));
        World lent = () -> {
            Trumpvault x = back.make();
            x.lend(0, 3, 1);
            return x;
        };
        refused("agree to a swap taken back, the card LENT", STATE, lent, x -> x.agree(0));
    }

    private static void agreeOffered() {
        World offered = () -> {
            Trumpvault x = told();
            x.sell(1, 5);
            return x;
        };
        refused("agree, the other one OFFERED, amid all", STATE, Worlds::busy, x -> x.agree(9));
        refused("agree, the other one OFFERED", STATE, offered, x -> x.agree(0));
        Trumpvault x = offered.make();
        x.cancelSale(1);
        due("agree when it is FREE again", x.agree(0), 1);
    }

    private static void agreeSwapping() {
        World crossed = () -> {
            Trumpvault x = told();
            x.swap(1, 0);
            return x;
        };
        refused("agree, the other one SWAPPING", STATE, crossed, x -> x.agree(0));
        refused("agree to the other one", STATE, crossed, x -> x.agree(1));
        Trumpvault x = crossed.make();
        x.cancelSwap(0);
        due("agree when one is FREE again", x.agree(1), 0);
        World third = () -> {
            Trumpvault y = told();
            y.swap(1, 2);
            return y;
        };
        refused("agree, the other one SWAPPING for a third", STATE, third, y -> y.agree(0));
        Trumpvault y = third.make();
        due("agree to the second swap", y.agree(1), 2);
        due("agree to the first swap then", y.agree(0), 1);
        dueFree("in a ring", y, 0, 2);
        dueFree("in a ring", y, 1, 0);
        dueFree("in a ring", y, 2, 1);
    }

    private static void agreeLent() {
        World lent = () -> {
            Trumpvault x = told();
            x.lend(1, 2, 2);
            return x;
        };
        refused("agree, the other one LENT", STATE, lent, x -> x.agree(0));
        Trumpvault x = lent.make();
        x.pass(1);
        refused("agree the day before it comes back", STATE, x, y -> y.agree(0));
        x.pass(1);
        due("agree when it has come back", x.agree(0), 1);
    }

    private static Trumpvault sameOwner() {
        Trumpvault x = told();
        x.sell(1, 5);
        x.bid(0, 1, 5);
        return x;
    }

    private static void agreeSameOwner() {
        refused("agree, the other one bought since, amid all", STATE, Worlds::busy, x -> x.agree(10));
        refused("agree, the other one bought since", STATE, SwapsAndLoansTest::sameOwner, x -> x.agree(0));
        World swapped = () -> {
            Trumpvault x = told();
            x.mint(0, 7);
            x.swap(1, 5);
            x.agree(1);
            return x;
        };
        refused("agree, the other one swapped since", STATE, swapped, x -> x.agree(0));
    }

    private static void agreeSameOwnerNoMore() {
        Trumpvault x = sameOwner();
        x.sell(1, 5);
        x.bid(4, 1, 5);
        due("agree when it is sold on", x.agree(0), 1);
        dueFree("the card", x, 0, 4);
        dueFree("the other one", x, 1, 0);
        Trumpvault y = sameOwner();
        y.cancelSwap(0);
        dueFree("a swap of one owner taken back", y, 0, 0);
    }

    private static void agreeAnotherOwner() {
        Trumpvault x = told();
        x.swap(2, 1);
        due("agree to the second swap", x.agree(2), 1);
        due("agree to the first swap", x.agree(0), 1);
        dueFree("the card", x, 0, 2);
        dueFree("the other one", x, 1, 0);
        dueFree("the card of the second swap", x, 2, 1);
    }

    private static void cancelSwap() {
        Trumpvault x = told();
        x.swap(4, 0);
        x.cancelSwap(0);
        dueFree("the first card", x, 0, 0);
        dueFree("its other one", x, 1, 1);
        due("another swap stays", x.stateOf(4), SWAPPING);
        x.cancelSwap(4);
        dueFree("the last card", x, 4, 4);
        due("it can be sold", x.sell(0, 1), 0);
    }

    private static void cancelSwapCards() {
        for (int card : new int[] {-1, 13, 30, LEAST, MOST}) {
            refused("cancelSwap", INDEX, Worlds::busy, x -> x.cancelSwap(card));
        }
        refused("cancelSwap of the 31st", INDEX, Worlds::full, x -> x.cancelSwap(30));
        Trumpvault x = Worlds.full();
        x.cancelSwap(28);
        dueFree("one of the last", x, 28, 3);
    }

    private static void cancelSwapNotSwapping() {
        for (int card : new int[] {0, 1, 2, 4, 11, 12}) {
            refused("cancelSwap of " + card + " amid all", STATE, Worlds::busy, x -> x.cancelSwap(card));
        }
        refused("cancelSwap of a FREE card", STATE, SwapsAndLoansTest::fourStates, x -> x.cancelSwap(0));
        refused("cancelSwap of an OFFERED card", STATE, SwapsAndLoansTest::fourStates, x -> x.cancelSwap(1));
        refused("cancelSwap of a LENT card", STATE, SwapsAndLoansTest::fourStates, x -> x.cancelSwap(3));
        refused("cancelSwap of the other card", STATE, SwapsAndLoansTest::fourStates, x -> x.cancelSwap(4));
        World twice = () -> {
            Trumpvault x = fourStates();
            x.cancelSwap(2);
            return x;
        };
        refused("cancelSwap again", STATE, twice, x -> x.cancelSwap(2));
    }

    private static void lendToEach() {
        for (int owner = 0; owner < 5; owner++) {
            for (int i = 0; i < 5; i++) {
                int player = i;
                int card = owner;
                if (player == owner) {
                    refused("lend to the owner", ARGUMENT, Worlds::oneEach, x -> x.lend(card, player, 1));
                    continue;
                }
                Trumpvault x = Worlds.oneEach();
                due("lend", x.lend(card, player, 1), 1);
                dueCard("lent", x, card, owner, player, LENT);
                dueFree("another one", x, player, player);
                due("coins", x.coins(owner), 100);
            }
        }
    }

    private static void lendBack() {
        for (int days : new int[] {1, 2, 49, 50}) {
            Trumpvault x = Worlds.oneEach();
            x.lend(0, 4, days);
            for (int day = 1; day < days; day++) {
                x.pass(1);
                dueCard("lent for " + days + ", day " + day, x, 0, 0, 4, LENT);
            }
            x.pass(1);
            dueFree("lent for " + days + ", back", x, 0, 0);
            due("it can be sold", x.sell(0, 1), 0);
        }
    }

    private static void lendBackOver() {
        for (int days : new int[] {1, 2, 49, 50}) {
            Trumpvault x = Worlds.oneEach();
            x.pass(3);
            x.lend(0, 4, days);
            x.pass(days + 1);
            dueFree("back, one day over", x, 0, 0);
            x.lend(0, 4, days);
            x.pass(100);
            dueFree("back, the most days passed", x, 0, 0);
            x.lend(0, 4, days);
            x.pass(days);
            dueFree("back, on the day", x, 0, 0);
        }
    }

    private static void lendManyBack() {
        Trumpvault x = Worlds.oneEach();
        for (int card = 0; card < 5; card++) {
            x.lend(card, (card + 1) % 5, 5 - card);
        }
        for (int day = 1; day <= 5; day++) {
            x.pass(1);
            for (int card = 0; card < 5; card++) {
                due("state of " + card + " on the day " + day, x.stateOf(card), day >= 5 - card ? FREE : LENT);
            }
        }
    }

    private static void lendDays() {
        Trumpvault x = Worlds.oneEach();
        due("lend for 1", x.lend(0, 1, 1), 1);
        due("lend for 50", x.lend(1, 2, 50), 50);
        due("lend for 2", x.lend(2, 3, 2), 2);
        due("lend for 49", x.lend(3, 4, 49), 49);
        refused("lend for 0", ARGUMENT, x, y -> y.lend(4, 0, 0));
        refused("lend for 51", ARGUMENT, x, y -> y.lend(4, 0, 51));
        due("lend after both were refused", x.lend(4, 0, 50), 50);
    }

    private static void lendReturns() {
        Trumpvault x = Worlds.oneEach();
        due("on the day 0", x.lend(0, 1, 50), 50);
        x.pass(7);
        due("on the day 7, for 1", x.lend(1, 2, 1), 8);
        due("on the day 7, for 50", x.lend(2, 3, 50), 57);
        x.pass(100);
        due("on the day 107", x.lend(0, 1, 3), 110);
    }

    private static void lendLast() {
        Trumpvault x = new Trumpvault();
        for (int card = 0; card < 30; card++) {
            x.mint(card % 5, 0);
        }
        due("lend of the last", x.lend(29, 0, 1), 1);
        due("lend of the first", x.lend(0, 4, 1), 1);
        dueCard("the last lent", x, 29, 4, 0, LENT);
        dueCard("the first lent", x, 0, 0, 4, LENT);
        x.pass(1);
        dueFree("the last back", x, 29, 4);
        dueFree("the first back", x, 0, 0);
    }

    private static void lendCards() {
        for (int card : new int[] {-1, 13, 30, LEAST, MOST}) {
            refused("lend", INDEX, Worlds::busy, x -> x.lend(card, 1, 1));
        }
        refused("lend of the 31st", INDEX, Worlds::full, x -> x.lend(30, 1, 1));
        refused("lend of the first of none", INDEX, Worlds::empty, x -> x.lend(0, 1, 1));
    }

    private static void lendPlayers() {
        for (int player : NO_PLAYERS) {
            refused("lend", INDEX, Worlds::busy, x -> x.lend(7, player, 1));
            refused("lend", INDEX, Worlds::oneEach, x -> x.lend(0, player, 50));
        }
    }

    private static void lendNoDays() {
        for (int days : NO_DAYS) {
            refused("lend", ARGUMENT, Worlds::busy, x -> x.lend(7, 1, days));
            refused("lend", ARGUMENT, Worlds::oneEach, x -> x.lend(4, 0, days));
        }
    }

    private static void lendOwner() {
        for (int i = 0; i < 13; i++) {
            int card = i;
            int owner = Worlds.busy().owner(card);
            refused("lend to the owner amid all", ARGUMENT, Worlds::busy, x -> x.lend(card, owner, 1));
        }
        refused("lend to the first", ARGUMENT, Worlds::oneEach, x -> x.lend(0, 0, 1));
        refused("lend to the last", ARGUMENT, Worlds::oneEach, x -> x.lend(4, 4, 50));
        World bought = () -> {
            Trumpvault x = Worlds.oneEach();
            x.sell(2, 5);
            x.bid(3, 2, 5);
            return x;
        };
        refused("lend to the owner by now", ARGUMENT, bought, x -> x.lend(2, 3, 5));
        due("lend to the owner before", bought.make().lend(2, 2, 5), 5);
    }

    private static void lendNotFree() {
        for (int card : new int[] {1, 2, 3, 4, 9, 10, 12}) {
            int player = card == 1 || card == 12 ? 0 : 1;
            refused("lend of " + card + " amid all", STATE, Worlds::busy, x -> x.lend(card, player, 1));
        }
        refused("lend of an OFFERED card", STATE, SwapsAndLoansTest::fourStates, x -> x.lend(1, 4, 1));
        refused("lend of a SWAPPING card", STATE, SwapsAndLoansTest::fourStates, x -> x.lend(2, 4, 1));
        refused("lend of a LENT card", STATE, SwapsAndLoansTest::fourStates, x -> x.lend(3, 4, 1));
        refused("lend of a LENT card to who holds it", STATE, SwapsAndLoansTest::fourStates, x -> x.lend(3, 2, 1));
        Trumpvault x = fourStates();
        due("lend of a FREE card", x.lend(0, 4, 1), 1);
        due("lend of the other card of a swap", x.lend(4, 0, 1), 1);
        x.cancelSale(1);
        due("lend after cancelSale", x.lend(1, 4, 1), 1);
        x.cancelSwap(2);
        due("lend after cancelSwap", x.lend(2, 4, 1), 1);
        x.pass(1);
        refused("lend the day before it comes back", STATE, x, y -> y.lend(3, 4, 1));
        x.pass(1);
        due("lend when it has come back", x.lend(3, 4, 1), 3);
    }

    private static void lendFirst() {
        for (int days : NO_DAYS) {
            refused("no card, no days", INDEX, SwapsAndLoansTest::fourStates, x -> x.lend(6, 1, days));
            refused("no player, no days", INDEX, SwapsAndLoansTest::fourStates, x -> x.lend(0, 5, days));
            refused("no player, no days, not FREE", INDEX, SwapsAndLoansTest::fourStates, x -> x.lend(1, -1, days));
            for (int i = 1; i < 4; i++) {
                int card = i;
                refused("no days, not FREE", ARGUMENT, SwapsAndLoansTest::fourStates, x -> x.lend(card, 4, days));
            }
        }
        for (int i = 1; i < 4; i++) {
            int card = i;
            refused("no player, not FREE", INDEX, SwapsAndLoansTest::fourStates, x -> x.lend(card, 5, 1));
            refused("the owner, not FREE", ARGUMENT, SwapsAndLoansTest::fourStates, x -> x.lend(card, 0, 1));
        }
        refused("no card, no player", INDEX, SwapsAndLoansTest::fourStates, x -> x.lend(-1, -1, 1));
    }
}
