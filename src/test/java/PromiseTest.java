/** For each promise: ordinary calls, the edges that the document names, and wrong calls. */
public final class PromiseTest extends Check {
    private PromiseTest() {
    }

    private static void refused(String what, Class<?> want, Runnable call) {
        refused(what, want, (Trumpvault) null, x -> call.run());
    }

    private static int[] wrongCards(int count) {
        return new int[] {-1, count, 30, Integer.MIN_VALUE, Integer.MAX_VALUE};
    }

    // Promise 1
    private static void testNewObject() {
        Trumpvault x = new Trumpvault();
        refused("owner(0) of a new object", INDEX, () -> x.owner(0));
        for (int player = 0; player < 5; player++) {
            due("coins of a new object", x.coins(player), 100);
            due("strength of a new object", x.strength(player), 0);
            due("isRight of a new object", x.isRight(player), false);
        }
        for (int kind = 0; kind < 8; kind++) {
            due("isBanned of a new object", x.isBanned(kind), false);
            due("leastSale of a new object", x.leastSale(kind), NONE);
            due("greatestBid of a new object", x.greatestBid(kind), NONE);
            due("lift of a new object", x.lift(kind), false);
        }
        due("the first day after a new object's day", x.pass(1), 1);
        due("a second object's first card", new Trumpvault().mint(4, 7), 0);
    }

    // Promise 2
    private static void testMint() {
        Trumpvault x = new Trumpvault();
        for (int card = 0; card < 30; card++) {
            for (int player : NO_PLAYERS) {
                refused("mint of a wrong player", INDEX, () -> x.mint(player, 0));
            }
            for (int kind : NO_KINDS) {
                refused("mint of a wrong kind", INDEX, () -> x.mint(0, kind));
            }
            due("mint", x.mint(card % 5, card % 8), card);
            due("state of a minted card", x.stateOf(card), FREE);
            due("owner of a minted card", x.owner(card), card % 5);
        }
        refused("mint of the 31st card", STATE, () -> x.mint(0, 0));
        refused("mint of the 31st card by a wrong player", INDEX, () -> x.mint(5, 0));
        refused("mint of the 31st card of a wrong kind", INDEX, () -> x.mint(0, 8));
        refused("owner of the 31st card", INDEX, () -> x.owner(30));
        Trumpvault banned = new Trumpvault();
        banned.ban(2, 0);
        due("mint of a banned kind", banned.mint(0, 2), 0);
    }

    // Promises 3, 4, 5 and 6
    private static void testCardQuestions() {
        Trumpvault x = Worlds.oneEach();
        for (int card : wrongCards(5)) {
            refused("owner of a wrong card", INDEX, () -> x.owner(card));
            refused("ownerByHistory of a wrong card", INDEX, () -> x.ownerByHistory(card));
            refused("holder of a wrong card", INDEX, () -> x.holder(card));
            refused("stateOf a wrong card", INDEX, () -> x.stateOf(card));
        }
        owners(x, 0, 1, 2, 3, 4);
        x.sell(0, 10);
        owners(x, 0, 1, 2, 3, 4);
        x.bid(1, 0, 10);
        owners(x, 1, 1, 2, 3, 4);
        x.swap(0, 4);
        due("state of a card told for a swap", x.stateOf(0), SWAPPING);
        due("state of the other card of a swap", x.stateOf(4), FREE);
        owners(x, 1, 1, 2, 3, 4);
        x.agree(0);
        owners(x, 4, 1, 2, 3, 1);
        x.lend(2, 0, 1);
        due("holder of a lent card", x.holder(2), 0);
        due("state of a lent card", x.stateOf(2), LENT);
        owners(x, 4, 1, 2, 3, 1);
        x.pass(1);
        due("holder of a card that came back", x.holder(2), 2);
        x.bid(3, 2, 100);
        x.sell(2, 1);
        owners(x, 4, 1, 3, 3, 1);
        due("holder of a card sold", x.holder(2), 3);
        x.sell(2, 1);
        due("state of a card for sale", x.stateOf(2), OFFERED);
        due("holder of a card for sale", x.holder(2), 3);
    }

    private static void owners(Trumpvault x, int... want) {
        for (int card = 0; card < want.length; card++) {
            due("owner(" + card + ")", x.owner(card), want[card]);
            due("ownerByHistory(" + card + ")", x.ownerByHistory(card), want[card]);
        }
    }

    /** After its 512 calls an object may refuse what it likes, but no index may run out of an array. */
    private static void testFarTooManyCalls() {
        Trumpvault x = Worlds.oneEach();
        for (int round = 0; round < 1000; round++) {
            try {
                x.swap(2, 3);
                x.agree(2);
            } catch (IllegalStateException refused) {
                x.pass(1);
            }
        }
    }

    /** The last of the most cards takes part in everything. */
    private static void testMostCards() {
        Trumpvault x = new Trumpvault();
        for (int card = 0; card < 30; card++) {
            x.mint(card % 5, 7);
        }
        x.sell(29, 4);
        due("leastSale of the last card", x.leastSale(7), 4);
        due("bid that meets the last card", x.bid(0, 7, 4), 29);
        x.lend(29, 1, 1);
        x.pass(1);
        due("holder of the last card lent", x.holder(29), 0);
        x.sell(29, 4);
        due("ban of the last card's kind", x.ban(7, 1), 1);
        due("state of the last card banned", x.stateOf(29), FREE);
        due("no sale is left of the most cards", x.leastSale(7), NONE);
    }

    // Promise 7
    private static void testCoins() {
        Trumpvault x = Worlds.alike();
        for (int player : NO_PLAYERS) {
            refused("coins of a wrong player", INDEX, () -> x.coins(player));
        }
        x.bid(0, 1, 60);
        due("coins after a bid", x.coins(0), 40);
        x.bid(0, 2, 40);
        due("coins after two bids", x.coins(0), 0);
        refused("a bid without coins", STATE, () -> x.bid(0, 4, 1));
        due("coins after a bid refused", x.coins(0), 0);
        x.cancelBid(0, 2);
        due("coins after a bid taken back", x.coins(0), 40);
        x.sell(0, 7);
        due("coins while a card is for sale", x.coins(0), 40);
        x.bid(1, 3, 30);
        due("coins of the seller", x.coins(0), 47);
        due("coins of the buyer", x.coins(1), 93);
    }

    // Promise 8
    private static void testSell() {
        Trumpvault x = Worlds.alike();
        for (int card : wrongCards(5)) {
            refused("sell of a wrong card", INDEX, () -> x.sell(card, 0));
        }
        for (int price : new int[] {0, -1, 1001, Integer.MIN_VALUE, Integer.MAX_VALUE}) {
            refused("sell at a wrong price", ARGUMENT, () -> x.sell(0, price));
        }
        due("state after a sale refused", x.stateOf(0), FREE);
        due("sell at the least price", x.sell(0, 1), 0);
        due("sell at the greatest price", x.sell(1, 1000), 0);
        due("state of a card for sale", x.stateOf(0), OFFERED);
        refused("sell of a card for sale", STATE, () -> x.sell(0, 5));
        refused("sell of a card for sale at a wrong price", ARGUMENT, () -> x.sell(0, 0));
        x.lend(2, 3, 5);
        refused("sell of a card lent", STATE, () -> x.sell(2, 5));
        x.swap(3, 4);
        refused("sell of a card told for a swap", STATE, () -> x.sell(3, 5));
        due("sell of the other card of a swap", x.sell(4, 5), 0);
    }

    private static void testSellMeetsBid() {
        Trumpvault x = Worlds.alike();
        x.bid(0, 3, 50);
        x.bid(1, 3, 20);
        x.bid(2, 3, 30);
        x.bid(3, 3, 30);
        x.bid(4, 2, 99);
        due("sell above the other bids", x.sell(0, 31), 0);
        due("state of a card above the other bids", x.stateOf(0), OFFERED);
        due("own bid stays", x.greatestBid(3), 50);
        x.cancelSale(0);
        due("sell at the greatest bid of another", x.sell(0, 30), 30);
        due("the bid with the lower number buys", x.owner(0), 2);
        due("state of a card sold at once", x.stateOf(0), FREE);
        due("coins of the seller sold at once", x.coins(0), 80);
        due("coins of the bidder sold at once", x.coins(2), 70);
        refused("the bid is gone", STATE, () -> x.cancelBid(2, 3));
        x.cancelBid(0, 3);
        due("sell below the bid is paid the bid", x.sell(2, 1), 30);
        due("the next bid of this price buys", x.owner(2), 3);
        due("sell to the last bid", x.sell(4, 20), 20);
        due("the last bid buys", x.owner(4), 1);
        due("no bid is left", x.greatestBid(3), NONE);
    }

    /** A bid made again has a new number, behind those that stand. */
    private static void testBidNumbers() {
        Trumpvault x = Worlds.alike();
        x.bid(0, 3, 9);
        x.bid(1, 3, 9);
        x.cancelBid(0, 3);
        x.bid(0, 3, 9);
        x.sell(2, 9);
        due("the bid that stood longer buys", x.owner(2), 1);
    }

    /** Of sales of one price the one that was made earlier is met, whatever the numbers of the cards. */
    private static void testSaleNumbers() {
        Trumpvault x = Worlds.alike();
        x.sell(1, 9);
        x.sell(3, 9);
        x.sell(2, 9);
        x.sell(4, 10);
        due("bid that meets the first sale", x.bid(0, 3, 9), 1);
        due("bid that meets the second sale", x.bid(0, 3, 9), 3);
        x.sell(3, 10);
        due("bid that meets the third sale", x.bid(0, 3, 10), 2);
        x.cancelSale(4);
        x.sell(4, 9);
        due("bid that meets a cheaper sale made later", x.bid(1, 3, 10), 4);
    }

    private static void testSellBanned() {
        Trumpvault x = Worlds.alike();
        x.ban(3, 1);
        due("sell before the ban", x.sell(0, 5), 0);
        x.pass(1);
        refused("sell on the day of the ban", STATE, () -> x.sell(0, 5));
        refused("sell banned at a wrong price", ARGUMENT, () -> x.sell(0, 0));
        x.lift(3);
        due("sell after the ban", x.sell(0, 5), 0);
    }

    // Promise 9
    private static void testBid() {
        Trumpvault x = Worlds.alike();
        for (int player : NO_PLAYERS) {
            refused("bid of a wrong player", INDEX, () -> x.bid(player, 0, 0));
        }
        for (int kind : NO_KINDS) {
            refused("bid for a wrong kind", INDEX, () -> x.bid(0, kind, 0));
        }
        for (int price : new int[] {0, -1, 1001, Integer.MIN_VALUE, Integer.MAX_VALUE}) {
            refused("bid of a wrong price", ARGUMENT, () -> x.bid(0, 0, price));
        }
        refused("bid of more than the coins", STATE, () -> x.bid(0, 0, 101));
        refused("bid of the greatest price", STATE, () -> x.bid(0, 0, 1000));
        due("bid of all coins", x.bid(0, 0, 100), NONE);
        due("bid of the least price", x.bid(1, 0, 1), NONE);
        refused("a second bid for the kind", STATE, () -> x.bid(1, 0, 1));
        refused("a second bid of a wrong price", ARGUMENT, () -> x.bid(1, 0, 0));
        due("a bid for another kind", x.bid(1, 1, 1), NONE);
        x.ban(5, 1);
        due("bid before the ban", x.bid(1, 5, 1), NONE);
        x.pass(1);
        refused("bid on the day of the ban", STATE, () -> x.bid(1, 5, 1));
        due("coins after the ban", x.coins(1), 98);
    }

    private static void testBidMeetsSale() {
        Trumpvault x = Worlds.alike();
        x.mint(0, 2);
        x.sell(0, 10);
        x.sell(4, 20);
        x.sell(3, 20);
        x.sell(5, 1);
        due("bid below the other sales", x.bid(0, 3, 19), NONE);
        due("coins of a bid that stays", x.coins(0), 81);
        x.cancelBid(0, 3);
        due("bid at the least sale of another", x.bid(0, 3, 20), 4);
        due("owner of the card bought", x.owner(4), 0);
        due("state of the card bought", x.stateOf(4), FREE);
        due("coins of the buyer", x.coins(0), 80);
        due("coins of the seller", x.coins(4), 120);
        due("a bid that bought does not stay", x.greatestBid(3), NONE);
        due("a bid above the sale", x.bid(1, 3, 100), 0);
        due("pays the price of the sale alone", x.coins(1), 90);
        due("to the seller", x.coins(0), 90);
        refused("bid of more coins than there are, though the sale is cheaper", STATE, () -> x.bid(1, 3, 91));
        due("the next sale", x.bid(1, 3, 90), 3);
        due("no sale is left", x.leastSale(3), NONE);
    }

    // Promises 10 and 11
    private static void testCancel() {
        Trumpvault x = Worlds.alike();
        for (int card : wrongCards(5)) {
            refused("cancelSale of a wrong card", INDEX, () -> x.cancelSale(card));
        }
        refused("cancelSale of a free card", STATE, () -> x.cancelSale(0));
        x.swap(0, 1);
        refused("cancelSale of a card told for a swap", STATE, () -> x.cancelSale(0));
        x.lend(1, 0, 1);
        refused("cancelSale of a card lent", STATE, () -> x.cancelSale(1));
        x.sell(2, 17);
        due("cancelSale", x.cancelSale(2), 17);
        due("state after cancelSale", x.stateOf(2), FREE);
        due("no sale after cancelSale", x.leastSale(3), NONE);
        refused("cancelSale again", STATE, () -> x.cancelSale(2));

        for (int player : NO_PLAYERS) {
            refused("cancelBid of a wrong player", INDEX, () -> x.cancelBid(player, 0));
        }
        for (int kind : NO_KINDS) {
            refused("cancelBid of a wrong kind", INDEX, () -> x.cancelBid(0, kind));
        }
        x.bid(1, 6, 33);
        refused("cancelBid of another player", STATE, () -> x.cancelBid(0, 6));
        refused("cancelBid of another kind", STATE, () -> x.cancelBid(1, 5));
        due("cancelBid", x.cancelBid(1, 6), 33);
        due("coins after cancelBid", x.coins(1), 100);
        due("no bid after cancelBid", x.greatestBid(6), NONE);
        refused("cancelBid again", STATE, () -> x.cancelBid(1, 6));
        due("coins after cancelBid again", x.coins(1), 100);
    }

    // Promises 12 and 13
    private static void testBestPrices() {
        Trumpvault x = Worlds.alike();
        for (int kind : NO_KINDS) {
            refused("leastSale of a wrong kind", INDEX, () -> x.leastSale(kind));
            refused("greatestBid of a wrong kind", INDEX, () -> x.greatestBid(kind));
        }
        x.mint(0, 2);
        x.sell(5, 3);
        x.sell(0, 40);
        due("leastSale of one", x.leastSale(3), 40);
        x.sell(1, 30);
        x.sell(2, 50);
        due("leastSale of three", x.leastSale(3), 30);
        x.cancelSale(1);
        due("leastSale of two", x.leastSale(3), 40);
        due("leastSale of another kind", x.leastSale(2), 3);
        due("leastSale of a kind without sales", x.leastSale(4), NONE);

        x.bid(0, 7, 1);
        due("greatestBid of one", x.greatestBid(7), 1);
        x.bid(1, 7, 20);
        x.bid(2, 7, 10);
        due("greatestBid of three", x.greatestBid(7), 20);
        x.cancelBid(1, 7);
        due("greatestBid of two", x.greatestBid(7), 10);
        due("greatestBid of a kind without bids", x.greatestBid(6), NONE);
    }

    // Promise 14
    private static void testSwap() {
        Trumpvault x = Worlds.oneEach();
        x.mint(0, 7);
        for (int card : wrongCards(6)) {
            refused("swap of a wrong card", INDEX, () -> x.swap(card, 0));
            refused("swap for a wrong card", INDEX, () -> x.swap(0, card));
        }
        refused("swap of a card for itself", ARGUMENT, () -> x.swap(0, 0));
        refused("swap of cards of one owner", ARGUMENT, () -> x.swap(0, 5));
        x.swap(0, 1);
        due("state after swap", x.stateOf(0), SWAPPING);
        due("state of the other card after swap", x.stateOf(1), FREE);
        refused("swap again", STATE, () -> x.swap(0, 2));
        refused("swap again for a card of one owner", ARGUMENT, () -> x.swap(0, 5));
        x.sell(2, 9);
        refused("swap of a card for sale", STATE, () -> x.swap(2, 1));
        x.lend(3, 4, 1);
        refused("swap of a card lent", STATE, () -> x.swap(3, 1));
        x.swap(4, 3);
        due("swap for a card lent", x.stateOf(4), SWAPPING);
        x.swap(1, 0);
        due("swap for a card told for a swap", x.stateOf(1), SWAPPING);
    }

    // Promise 15
    private static void testAgree() {
        Trumpvault x = Worlds.oneEach();
        for (int card : wrongCards(5)) {
            refused("agree to a wrong card", INDEX, () -> x.agree(card));
        }
        refused("agree to a free card", STATE, () -> x.agree(0));
        x.swap(0, 1);
        refused("agree by the other card", STATE, () -> x.agree(1));
        x.sell(1, 9);
        refused("agree while the other is for sale", STATE, () -> x.agree(0));
        due("state after agree was refused", x.stateOf(0), SWAPPING);
        x.cancelSale(1);
        x.lend(1, 2, 1);
        refused("agree while the other is lent", STATE, () -> x.agree(0));
        x.pass(1);
        x.swap(1, 0);
        refused("agree while the other is told for a swap", STATE, () -> x.agree(0));
        x.cancelSwap(1);
        due("agree", x.agree(0), 1);
        owners(x, 1, 0, 2, 3, 4);
        due("state of the card after agree", x.stateOf(0), FREE);
        due("state of the other after agree", x.stateOf(1), FREE);
        refused("agree again", STATE, () -> x.agree(0));
        x.sell(0, 9);
        refused("agree to a card for sale", STATE, () -> x.agree(0));
        x.swap(1, 0);
        x.cancelSwap(1);
        refused("agree to a swap taken back", STATE, () -> x.agree(1));
    }

    /** The other card may get another owner between the swap told and the agreement. */
    private static void testAgreeAfterOwnersChanged() {
        Trumpvault x = Worlds.oneEach();
        x.swap(0, 1);
        x.swap(2, 1);
        due("agree to the second swap", x.agree(2), 1);
        due("agree with the new owner", x.agree(0), 1);
        owners(x, 2, 0, 1, 3, 4);

        Trumpvault y = Worlds.oneEach();
        y.swap(0, 1);
        y.sell(1, 5);
        y.bid(0, 1, 5);
        refused("agree with one owner by now", STATE, () -> y.agree(0));
        due("state of the card of one owner", y.stateOf(0), SWAPPING);
        y.cancelSwap(0);
        owners(y, 0, 0, 2, 3, 4);
    }

    // Promise 16
    private static void testCancelSwap() {
        Trumpvault x = Worlds.oneEach();
        for (int card : wrongCards(5)) {
            refused("cancelSwap of a wrong card", INDEX, () -> x.cancelSwap(card));
        }
        refused("cancelSwap of a free card", STATE, () -> x.cancelSwap(0));
        x.sell(0, 3);
        refused("cancelSwap of a card for sale", STATE, () -> x.cancelSwap(0));
        x.lend(1, 0, 3);
        refused("cancelSwap of a card lent", STATE, () -> x.cancelSwap(1));
        x.swap(2, 3);
        refused("cancelSwap of the other card", STATE, () -> x.cancelSwap(3));
        x.cancelSwap(2);
        due("state after cancelSwap", x.stateOf(2), FREE);
        refused("cancelSwap again", STATE, () -> x.cancelSwap(2));
        x.swap(2, 4);
        due("agree to the later swap", x.agree(2), 4);
    }

    // Promise 17
    private static void testLend() {
        Trumpvault x = Worlds.oneEach();
        for (int card : wrongCards(5)) {
            refused("lend of a wrong card", INDEX, () -> x.lend(card, 1, 0));
        }
        for (int player : NO_PLAYERS) {
            refused("lend to a wrong player", INDEX, () -> x.lend(0, player, 0));
        }
        for (int days : new int[] {0, -1, 51, Integer.MIN_VALUE, Integer.MAX_VALUE}) {
            refused("lend for wrong days", ARGUMENT, () -> x.lend(0, 1, days));
        }
        refused("lend to the owner", ARGUMENT, () -> x.lend(0, 0, 1));
        x.pass(10);
        due("lend for the fewest days", x.lend(0, 1, 1), 11);
        due("lend for the most days", x.lend(1, 2, 50), 60);
        refused("lend of a card lent", STATE, () -> x.lend(0, 2, 1));
        refused("lend of a card lent for wrong days", ARGUMENT, () -> x.lend(0, 2, 0));
        refused("lend of a card lent to its owner", ARGUMENT, () -> x.lend(0, 0, 1));
        x.sell(2, 5);
        refused("lend of a card for sale", STATE, () -> x.lend(2, 0, 1));
        x.swap(3, 0);
        refused("lend of a card told for a swap", STATE, () -> x.lend(3, 0, 1));
        due("owner of a card lent", x.owner(0), 0);
        due("holder of a card lent", x.holder(0), 1);
        x.pass(1);
        due("holder after the loan", x.holder(0), 0);
        due("state after the loan", x.stateOf(0), FREE);
        x.pass(48);
        due("holder a day before the end", x.holder(1), 2);
        due("state a day before the end", x.stateOf(1), LENT);
        x.pass(1);
        due("holder at the end", x.holder(1), 1);
        due("lend again", x.lend(0, 4, 2), 62);
        x.pass(100);
        due("holder long after the loan", x.holder(0), 0);
        due("state long after the loan", x.stateOf(0), FREE);
    }

    // Promise 18
    private static void testBan() {
        Trumpvault x = Worlds.alike();
        for (int kind : NO_KINDS) {
            refused("ban of a wrong kind", INDEX, () -> x.ban(kind, -1));
        }
        x.pass(10);
        for (int day : new int[] {9, -1, 61, Integer.MIN_VALUE, Integer.MAX_VALUE}) {
            refused("ban from a wrong day", ARGUMENT, () -> x.ban(3, day));
        }
        x.mint(0, 2);
        x.sell(0, 90);
        x.sell(1, 90);
        x.sell(5, 90);
        x.bid(0, 3, 7);
        x.bid(2, 3, 8);
        x.bid(2, 2, 9);
        x.swap(2, 3);
        x.lend(4, 0, 1);
        due("ban from the last day", x.ban(3, 60), 0);
        due("isBanned before the day", x.isBanned(3), false);
        due("a sale before the day", x.stateOf(0), OFFERED);
        due("ban from today", x.ban(3, 10), 4);
        due("isBanned from today", x.isBanned(3), true);
        due("state after the ban", x.stateOf(0), FREE);
        due("state after the ban", x.stateOf(1), FREE);
        due("a swap under the ban", x.stateOf(2), SWAPPING);
        due("a loan under the ban", x.stateOf(4), LENT);
        due("a sale of another kind", x.stateOf(5), OFFERED);
        due("a bid for another kind", x.greatestBid(2), 9);
        due("coins after the ban", x.coins(0), 100);
        due("coins after the ban", x.coins(2), 91);
        due("no sale under the ban", x.leastSale(3), NONE);
        due("no bid under the ban", x.greatestBid(3), NONE);
        due("ban again", x.ban(3, 10), 0);
        due("agree under the ban", x.agree(2), 3);
        due("ban from a later day, in place of today", x.ban(3, 11), 0);
        due("isBanned after another day was told", x.isBanned(3), false);
        due("sell after another day was told", x.sell(0, 90), 0);
        due("ban from today in place of a later day", x.ban(3, 10), 1);
    }

    // Promises 19 and 20
    private static void testLift() {
        Trumpvault x = Worlds.alike();
        for (int kind : NO_KINDS) {
            refused("lift of a wrong kind", INDEX, () -> x.lift(kind));
            refused("isBanned of a wrong kind", INDEX, () -> x.isBanned(kind));
        }
        due("lift without a ban", x.lift(3), false);
        x.ban(3, 0);
        due("isBanned", x.isBanned(3), true);
        due("isBanned of another kind", x.isBanned(2), false);
        due("lift of another kind", x.lift(2), false);
        due("lift of a ban that is on", x.lift(3), true);
        due("isBanned after lift", x.isBanned(3), false);
        due("lift again", x.lift(3), false);
        x.ban(3, 2);
        due("lift of a ban that is to come", x.lift(3), true);
        x.pass(5);
        due("isBanned on the day of a ban lifted", x.isBanned(3), false);
        x.ban(3, 6);
        x.pass(50);
        due("isBanned long after the day", x.isBanned(3), true);
        due("lift of an old ban", x.lift(3), true);
    }

    // Promise 21
    private static void testPass() {
        Trumpvault x = Worlds.alike();
        for (int days : new int[] {0, -1, 101, Integer.MIN_VALUE, Integer.MAX_VALUE}) {
            refused("pass of wrong days", ARGUMENT, () -> x.pass(days));
        }
        due("pass of the most days", x.pass(100), 100);
        due("pass of the fewest days", x.pass(1), 101);
        x.ban(3, 103);
        x.ban(4, 104);
        x.sell(0, 90);
        x.bid(1, 3, 4);
        x.bid(1, 4, 5);
        x.lend(2, 0, 3);
        due("pass to the day before", x.pass(1), 102);
        due("a sale the day before the ban", x.stateOf(0), OFFERED);
        due("a bid the day before the ban", x.coins(1), 91);
        due("pass to the day", x.pass(1), 103);
        due("a sale on the day of the ban", x.stateOf(0), FREE);
        due("a bid on the day of the ban", x.coins(1), 95);
        due("a loan the day before its end", x.stateOf(2), LENT);
        due("pass over the next day", x.pass(7), 110);
        due("a bid after the day of the ban", x.coins(1), 100);
        due("no bid after the day of the ban", x.greatestBid(4), NONE);
        due("a loan after its end", x.stateOf(2), FREE);
    }

    /** Bans of all kinds begin on one day. */
    private static void testPassToBansOfAllKinds() {
        Trumpvault x = new Trumpvault();
        for (int kind = 0; kind < 8; kind++) {
            x.mint(0, kind);
            x.sell(kind, 50);
            x.bid(1, kind, 5);
            x.ban(kind, 2);
        }
        x.pass(1);
        due("coins before the bans", x.coins(1), 60);
        x.pass(1);
        due("coins after the bans", x.coins(1), 100);
        for (int kind = 0; kind < 8; kind++) {
            due("state after the bans", x.stateOf(kind), FREE);
            due("leastSale after the bans", x.leastSale(kind), NONE);
            due("greatestBid after the bans", x.greatestBid(kind), NONE);
        }
    }

    // Promises 22, 23 and 24
    private static void testToggleDeck() {
        Trumpvault x = new Trumpvault();
        for (int card = 0; card < 30; card++) {
            x.mint(0, card % 8);
        }
        for (int player : NO_PLAYERS) {
            refused("toggleDeck of a wrong player", INDEX, () -> x.toggleDeck(player, 0));
            refused("isRight of a wrong player", INDEX, () -> x.isRight(player));
            refused("strength of a wrong player", INDEX, () -> x.strength(player));
        }
        for (int card : wrongCards(30)) {
            refused("toggleDeck of a wrong card", INDEX, () -> x.toggleDeck(0, card));
        }
        int strength = 0;
        for (int card = 0; card < 30; card++) {
            due("isRight with " + card + " cards", x.isRight(0), card >= 1 && card <= 5);
            due("toggleDeck in", x.toggleDeck(0, card), card + 1);
            strength += card % 8 + 1;
            due("strength", x.strength(0), strength);
            due("strength of another player", x.strength(1), 0);
        }
        for (int card = 0; card < 30; card++) {
            due("toggleDeck out", x.toggleDeck(0, card), 29 - card);
            strength -= card % 8 + 1;
            due("strength", x.strength(0), strength);
            due("isRight with " + (29 - card) + " cards", x.isRight(0), card >= 24 && card <= 28);
        }
        due("a card in the decks of two players", x.toggleDeck(1, 3), 1);
        due("a card in the decks of two players", x.toggleDeck(0, 3), 1);
    }

    private static void testIsRight() {
        Trumpvault x = Worlds.oneEach();
        x.toggleDeck(0, 0);
        x.toggleDeck(1, 0);
        due("isRight of the owner", x.isRight(0), true);
        due("isRight of another player", x.isRight(1), false);
        x.lend(0, 1, 2);
        due("isRight of the lender", x.isRight(0), false);
        due("isRight of the borrower", x.isRight(1), true);
        x.pass(2);
        due("isRight after the loan", x.isRight(0), true);
        due("isRight of the borrower after the loan", x.isRight(1), false);
        x.sell(0, 9);
        due("isRight with a card for sale", x.isRight(0), false);
        x.cancelSale(0);
        x.swap(0, 1);
        due("isRight with a card told for a swap", x.isRight(0), false);
        x.agree(0);
        due("isRight of the old owner", x.isRight(0), false);
        due("isRight of the new owner", x.isRight(1), true);
        x.ban(0, 3);
        due("isRight before the ban", x.isRight(1), true);
        x.pass(1);
        due("isRight on the day of the ban", x.isRight(1), false);
        due("strength of a deck that is not right", x.strength(1), 1);
        x.lift(0);
        due("isRight after the ban", x.isRight(1), true);
        x.toggleDeck(1, 3);
        due("isRight with one card of another player", x.isRight(1), false);
        due("strength with a card of another player", x.strength(1), 5);
    }

    // Promise 25
    private static void testPlay() {
        Trumpvault x = Worlds.oneEach();
        x.mint(4, 3);
        x.toggleDeck(2, 2);
        x.toggleDeck(3, 3);
        x.toggleDeck(4, 5);
        for (int player : NO_PLAYERS) {
            refused("play of a wrong player", INDEX, () -> x.play(player, 2));
            refused("play against a wrong player", INDEX, () -> x.play(2, player));
            refused("play of a wrong player alone", INDEX, () -> x.play(player, player));
        }
        refused("play alone", ARGUMENT, () -> x.play(2, 2));
        refused("play alone without a deck", ARGUMENT, () -> x.play(0, 0));
        refused("play without a deck", STATE, () -> x.play(0, 2));
        refused("play against no deck", STATE, () -> x.play(2, 0));
        due("coins after play was refused", x.coins(2), 100);
        due("play of the stronger", x.play(3, 2), 3);
        due("play against the stronger", x.play(2, 3), 3);
        due("coins of the winner", x.coins(3), 110);
        due("coins of the loser", x.coins(2), 100);
        due("play of decks alike", x.play(3, 4), 3);
        due("play of decks alike, turned", x.play(4, 3), 4);
        due("coins after decks alike", x.coins(3), 115);
        due("coins after decks alike", x.coins(4), 105);
        x.toggleDeck(2, 0);
        refused("play with a card of another", STATE, () -> x.play(2, 3));
        x.toggleDeck(2, 0);
        x.ban(3, 0);
        refused("play against a banned card", STATE, () -> x.play(2, 3));
    }

    public static void main(String[] args) {
        test("new object", PromiseTest::testNewObject);
        test("mint", PromiseTest::testMint);
        test("card questions", PromiseTest::testCardQuestions);
        test("far too many calls", PromiseTest::testFarTooManyCalls);
        test("most cards", PromiseTest::testMostCards);
        test("coins", PromiseTest::testCoins);
        test("sell", PromiseTest::testSell);
        test("sell meets bid", PromiseTest::testSellMeetsBid);
        test("bid numbers", PromiseTest::testBidNumbers);
        test("sale numbers", PromiseTest::testSaleNumbers);
        test("sell banned", PromiseTest::testSellBanned);
        test("bid", PromiseTest::testBid);
        test("bid meets sale", PromiseTest::testBidMeetsSale);
        test("cancel", PromiseTest::testCancel);
        test("best prices", PromiseTest::testBestPrices);
        test("swap", PromiseTest::testSwap);
        test("agree", PromiseTest::testAgree);
        test("agree after owners changed", PromiseTest::testAgreeAfterOwnersChanged);
        test("cancel swap", PromiseTest::testCancelSwap);
        test("lend", PromiseTest::testLend);
        test("ban", PromiseTest::testBan);
        test("lift", PromiseTest::testLift);
        test("pass", PromiseTest::testPass);
        test("pass to bans of all kinds", PromiseTest::testPassToBansOfAllKinds);
        test("toggle deck", PromiseTest::testToggleDeck);
        test("is right", PromiseTest::testIsRight);
        test("play", PromiseTest::testPlay);
        end();
    }
}
