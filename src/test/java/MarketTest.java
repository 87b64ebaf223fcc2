/** Promises 8 to 13: one test for each sentence that names a boundary, and for each throw. */
public final class MarketTest extends Check {
    private MarketTest() {
    }

    public static void main(String[] args) {
        sellTests();
        bidTests();
        cancelTests();
        bestPriceTests();
        end();
    }

    private static void sellTests() {
        test("Promise 8: by the owner of the card", MarketTest::sellByOwner);
        test("Promise 8: price, 1 to 1000", MarketTest::sellPrices);
        test("Promise 8: returns what is paid, 1 to 1000", MarketTest::sellPaid);
        test("Promise 8: returns otherwise 0", MarketTest::sellOtherwise);
        test("Promise 8: IndexOutOfBounds of the card", MarketTest::sellCards);
        test("Promise 8: IllegalArgument if price is out of range", MarketTest::sellNoPrices);
        test("Promise 8: IllegalState if the card is not FREE", MarketTest::sellNotFree);
        test("Promise 8: IllegalState if its kind is banned today", MarketTest::sellBanned);
        test("Promise 8: which throw comes first", MarketTest::sellFirst);
        test("Promise 8: a sale of the first and of the last card", MarketTest::sellFirstAndLast);
    }

    private static void bidTests() {
        test("Promise 9: price, 1 to 1000", MarketTest::bidPrices);
        test("Promise 9: a bid of 1000", MarketTest::bidOfThousand);
        test("Promise 9: returns the card, from 0 on", MarketTest::bidCards);
        test("Promise 9: returns NONE if none is", MarketTest::bidNone);
        test("Promise 9: IndexOutOfBounds of the player", MarketTest::bidPlayers);
        test("Promise 9: IndexOutOfBounds of the kind", MarketTest::bidKinds);
        test("Promise 9: IllegalArgument if price is out of range", MarketTest::bidNoPrices);
        test("Promise 9: IllegalState if the player has fewer coins", MarketTest::bidCoins);
        test("Promise 9: fewer coins, whatever the sale costs", MarketTest::bidCoinsAboveSale);
        test("Promise 9: fewer coins, those of other bids not among them", MarketTest::bidCoinsBesideBids);
        test("Promise 9: IllegalState if the player has a bid for the kind", MarketTest::bidTwice);
        test("Promise 9: IllegalState if it is banned today", MarketTest::bidBanned);
        test("Promise 9: which throw comes first", MarketTest::bidFirst);
    }

    private static void cancelTests() {
        test("Promise 10: takes the sale back and returns its price", MarketTest::cancelSale);
        test("Promise 10: IndexOutOfBounds of the card", MarketTest::cancelSaleCards);
        test("Promise 10: IllegalState if it is not OFFERED", MarketTest::cancelSaleNotOffered);
        test("Promise 11: takes the bid back and returns its price", MarketTest::cancelBid);
        test("Promise 11: its price comes back to the coins", MarketTest::cancelBidCoins);
        test("Promise 11: IndexOutOfBounds of the player", MarketTest::cancelBidPlayers);
        test("Promise 11: IndexOutOfBounds of the kind", MarketTest::cancelBidKinds);
        test("Promise 11: IllegalState if there is none", MarketTest::cancelBidNone);
        test("Promise 11: which throw comes first", MarketTest::cancelBidFirst);
    }

    private static void bestPriceTests() {
        test("Promise 12: the least price of all sales of a kind", MarketTest::leastSale);
        test("Promise 12: the least and the greatest price there can be", MarketTest::leastSaleEdges);
        test("Promise 12: NONE if there are none", MarketTest::leastSaleNone);
        test("Promise 12: IndexOutOfBounds of the kind", MarketTest::leastSaleKinds);
        test("Promise 13: the greatest price of all bids for a kind", MarketTest::greatestBid);
        test("Promise 13: the least and the greatest price there can be", MarketTest::greatestBidEdges);
        test("Promise 13: NONE if there are none", MarketTest::greatestBidNone);
        test("Promise 13: IndexOutOfBounds of the kind", MarketTest::greatestBidKinds);
    }

    /** Player 0 with so many coins, of which 100 are there at first and the rest is won. */
    private static Trumpvault rich(int coins) {
        Trumpvault x = new Trumpvault();
        x.mint(0, 3);
        x.mint(1, 3);
        x.toggleDeck(0, 0);
        x.toggleDeck(1, 1);
        for (int matches = 0; matches < (coins - 100) / 5; matches++) {
            x.play(0, 1);
        }
        return x;
    }

    /** Cards 0 to 3 of the player 0: FREE, OFFERED, SWAPPING and LENT; card 4 of the player 1. All of the kind 3. */
    private static Trumpvault fourStates() {
        Trumpvault x = new Trumpvault();
        for (int card = 0; card < 4; card++) {
            x.mint(0, 3);
        }
        x.mint(1, 3);
        x.sell(1, 30);
        x.swap(2, 4);
        x.lend(3, 2, 2);
        return x;
    }

    /** The same with a bid that would meet every sale. */
    private static Trumpvault fourStatesAndBid() {
        Trumpvault x = fourStates();
        x.bid(4, 3, 29);
        return x;
    }

    private static Trumpvault bannedKind() {
        Trumpvault x = fourStates();
        x.ban(3, 0);
        return x;
    }

    private static void sellByOwner() {
        Trumpvault x = Worlds.alike();
        x.sell(2, 10);
        dueCard("for sale", x, 2, 2, 2, OFFERED);
        x.bid(1, 3, 10);
        due("the owner is paid", x.coins(2), 110);
        x.lend(2, 4, 1);
        x.pass(1);
        x.sell(2, 10);
        x.bid(3, 3, 10);
        due("the new owner is paid", x.coins(1), 100);
        due("who held it is not", x.coins(4), 100);
        due("the old owner is not", x.coins(2), 110);
    }

    private static void sellPrices() {
        Trumpvault x = Worlds.alike();
        due("sell for 1", x.sell(0, 1), 0);
        due("leastSale", x.leastSale(3), 1);
        due("cancelSale", x.cancelSale(0), 1);
        due("sell for 1000", x.sell(1, 1000), 0);
        due("leastSale", x.leastSale(3), 1000);
        due("cancelSale", x.cancelSale(1), 1000);
        due("sell for 2", x.sell(2, 2), 0);
        due("sell for 999", x.sell(3, 999), 0);
        refused("sell for 0", ARGUMENT, x, y -> y.sell(4, 0));
        refused("sell for 1001", ARGUMENT, x, y -> y.sell(4, 1001));
    }

    private static void sellPaid() {
        Trumpvault x = Worlds.alike();
        x.bid(1, 3, 1);
        due("sold for 1", x.sell(0, 1), 1);
        x.bid(1, 3, 99);
        due("sold for all coins", x.sell(2, 1), 99);
        Trumpvault y = rich(1000);
        y.bid(0, 3, 1000);
        due("sold for 1000", y.sell(1, 1000), 1000);
        due("coins of the seller", y.coins(1), 1100);
        due("coins of the bidder", y.coins(0), 0);
    }

    private static void sellOtherwise() {
        Trumpvault x = Worlds.alike();
        due("without a bid", x.sell(0, 5), 0);
        x.bid(1, 3, 4);
        due("above the bid", x.sell(2, 5), 0);
        due("with one's own bid alone", x.sell(1, 1), 0);
    }

    private static void sellCards() {
        for (int card : new int[] {-1, 13, 30, LEAST, MOST}) {
            refused("sell", INDEX, Worlds::busy, x -> x.sell(card, 1));
        }
        refused("sell of the 31st", INDEX, Worlds::full, x -> x.sell(30, 1));
        refused("sell of the first of none", INDEX, Worlds::empty, x -> x.sell(0, 1));
    }

    private static void sellNoPrices() {
        for (int price : NO_PRICES) {
            refused("sell", ARGUMENT, Worlds::busy, x -> x.sell(7, price));
            refused("sell beside a bid", ARGUMENT, MarketTest::fourStatesAndBid, x -> x.sell(0, price));
        }
    }

    private static void sellNotFree() {
        for (World world : new World[] {MarketTest::fourStates, MarketTest::fourStatesAndBid}) {
            refused("sell of an OFFERED card", STATE, world, x -> x.sell(1, 20));
            refused("sell of a SWAPPING card", STATE, world, x -> x.sell(2, 20));
            refused("sell of a LENT card", STATE, world, x -> x.sell(3, 20));
        }
        for (int card : new int[] {1, 2, 3, 4, 9, 10, 12}) {
            refused("sell of " + card + " amid all", STATE, Worlds::busy, x -> x.sell(card, 20));
        }
        Trumpvault x = fourStates();
        due("sell of a FREE card", x.sell(0, 20), 0);
        due("sell of the other card of a swap", x.sell(4, 20), 0);
        x.cancelSale(1);
        due("sell after cancelSale", x.sell(1, 20), 0);
        x.cancelSwap(2);
        due("sell after cancelSwap", x.sell(2, 20), 0);
        x.pass(1);
        refused("sell the day before it comes back", STATE, x, y -> y.sell(3, 20));
        x.pass(1);
        due("sell when it has come back", x.sell(3, 20), 0);
    }

    private static void sellBanned() {
        refused("sell of a banned kind", STATE, MarketTest::bannedKind, x -> x.sell(0, 20));
        refused("sell of a banned kind amid all", STATE, Worlds::busy, x -> x.sell(6, 20));
        Trumpvault x = fourStates();
        x.ban(3, 1);
        x.ban(2, 0);
        x.ban(4, 0);
        due("sell the day before", x.sell(0, 20), 0);
        x.pass(1);
        refused("sell on the day", STATE, x, y -> y.sell(0, 20));
        x.pass(1);
        refused("sell on the day after", STATE, x, y -> y.sell(0, 20));
        x.lift(3);
        due("sell as soon as it is lifted", x.sell(0, 20), 0);
    }

    private static void sellFirst() {
        for (int price : NO_PRICES) {
            refused("no card, no price", INDEX, Worlds::busy, x -> x.sell(13, price));
            refused("no card, no price", INDEX, Worlds::busy, x -> x.sell(-1, price));
            refused("no price, OFFERED", ARGUMENT, MarketTest::fourStatesAndBid, x -> x.sell(1, price));
            refused("no price, SWAPPING", ARGUMENT, MarketTest::fourStatesAndBid, x -> x.sell(2, price));
            refused("no price, LENT", ARGUMENT, MarketTest::fourStatesAndBid, x -> x.sell(3, price));
            refused("no price, banned", ARGUMENT, MarketTest::bannedKind, x -> x.sell(0, price));
            refused("no price, banned and LENT", ARGUMENT, MarketTest::bannedKind, x -> x.sell(3, price));
        }
        refused("banned and LENT", STATE, MarketTest::bannedKind, x -> x.sell(3, 1));
    }

    private static void sellFirstAndLast() {
        Trumpvault x = new Trumpvault();
        for (int card = 0; card < 30; card++) {
            x.mint(card % 5, 7);
        }
        due("sell of the first", x.sell(0, 20), 0);
        due("sell of the last", x.sell(29, 19), 0);
        due("leastSale", x.leastSale(7), 19);
        due("bid for the last", x.bid(2, 7, 20), 29);
        due("bid for the first", x.bid(2, 7, 20), 0);
    }

    private static void bidPrices() {
        Trumpvault x = rich(1005);
        due("bid of 1", x.bid(0, 0, 1), NONE);
        due("greatestBid", x.greatestBid(0), 1);
        refused("bid of 0", ARGUMENT, x, y -> y.bid(0, 1, 0));
        due("coins", x.coins(0), 1004);
        refused("bid of 1001 of 1004 coins", ARGUMENT, x, y -> y.bid(0, 1, 1001));
        due("bid of 1000", x.bid(0, 1, 1000), NONE);
        due("greatestBid", x.greatestBid(1), 1000);
        due("coins", x.coins(0), 4);
        due("bid of 2", x.bid(0, 2, 2), NONE);
        due("cancelBid", x.cancelBid(0, 1), 1000);
        due("bid of 999", x.bid(0, 1, 999), NONE);
    }

    private static void bidOfThousand() {
        Trumpvault x = rich(1000);
        x.sell(1, 1000);
        due("bid of 1000", x.bid(0, 3, 1000), 1);
        due("coins of the bidder", x.coins(0), 0);
        due("coins of the seller", x.coins(1), 1100);
        dueFree("bought for 1000", x, 1, 0);
        Trumpvault y = rich(995);
        refused("bid of 1000 of 995 coins", STATE, y, z -> z.bid(0, 3, 1000));
        due("bid of 995", y.bid(0, 3, 995), NONE);
    }

    private static void bidCards() {
        Trumpvault x = Worlds.alike();
        x.sell(0, 10);
        due("the first card", x.bid(1, 3, 10), 0);
        x.sell(4, 10);
        due("the last card", x.bid(1, 3, 10), 4);
    }

    private static void bidNone() {
        Trumpvault x = Worlds.alike();
        due("without a sale", x.bid(0, 3, 5), NONE);
        x.sell(1, 7);
        due("below the sale", x.bid(2, 3, 6), NONE);
        due("with one's own sale alone", x.bid(1, 3, 100), NONE);
        due("for a kind without cards", x.bid(3, 7, 1), NONE);
    }

    private static void bidPlayers() {
        for (int player : NO_PLAYERS) {
            refused("bid", INDEX, Worlds::busy, x -> x.bid(player, 3, 50));
            refused("bid", INDEX, Worlds::empty, x -> x.bid(player, 3, 50));
        }
        due("bid of the first", new Trumpvault().bid(0, 3, 50), NONE);
        due("bid of the last", new Trumpvault().bid(4, 3, 50), NONE);
    }

    private static void bidKinds() {
        for (int kind : NO_KINDS) {
            refused("bid", INDEX, Worlds::busy, x -> x.bid(1, kind, 50));
            refused("bid", INDEX, Worlds::empty, x -> x.bid(1, kind, 50));
        }
        due("bid for the first", new Trumpvault().bid(2, 0, 50), NONE);
        due("bid for the last", new Trumpvault().bid(2, 7, 50), NONE);
    }

    private static void bidNoPrices() {
        for (int price : NO_PRICES) {
            refused("bid", ARGUMENT, Worlds::busy, x -> x.bid(1, 3, price));
            refused("bid", ARGUMENT, Worlds::empty, x -> x.bid(1, 3, price));
        }
    }

    private static void bidCoins() {
        due("bid of all coins", new Trumpvault().bid(3, 3, 100), NONE);
        refused("bid of 1 more", STATE, Worlds::empty, x -> x.bid(3, 3, 101));
        refused("bid of 1000", STATE, Worlds::empty, x -> x.bid(3, 3, 1000));
        World poor = () -> {
            Trumpvault x = new Trumpvault();
            x.bid(3, 0, 100);
            return x;
        };
        refused("bid of 1 without coins", STATE, poor, x -> x.bid(3, 3, 1));
        due("bid of another player", poor.make().bid(2, 3, 100), NONE);
    }

    /** The whole price of a bid is taken when it is made, though a sale may be cheaper. */
    private static void bidCoinsAboveSale() {
        World sale = () -> {
            Trumpvault x = Worlds.alike();
            x.sell(0, 40);
            return x;
        };
        refused("bid of 101 beside a sale for 40", STATE, sale, x -> x.bid(1, 3, 101));
        due("bid of 100 beside a sale for 40", sale.make().bid(1, 3, 100), 0);
    }

    private static void bidCoinsBesideBids() {
        World bids = () -> {
            Trumpvault x = new Trumpvault();
            x.bid(1, 0, 30);
            x.bid(1, 7, 30);
            return x;
        };
        refused("bid of 41", STATE, bids, x -> x.bid(1, 3, 41));
        due("bid of 40", bids.make().bid(1, 3, 40), NONE);
    }

    private static void bidTwice() {
        World beside = () -> {
            Trumpvault x = Worlds.alike();
            x.bid(1, 3, 10);
            x.sell(2, 11);
            return x;
        };
        for (int player : new int[] {0, 3, 4}) {
            refused("a second bid amid all", STATE, Worlds::busy, x -> x.bid(player, 3, 50));
        }
        refused("a bid below one's own", STATE, beside, x -> x.bid(1, 3, 1));
        refused("a bid like one's own", STATE, beside, x -> x.bid(1, 3, 10));
        refused("a bid that would meet the sale", STATE, beside, x -> x.bid(1, 3, 11));
        due("a bid of the player before", beside.make().bid(0, 3, 10), NONE);
        due("a bid of the player after", beside.make().bid(2, 3, 10), NONE);
        due("a bid for the kind before", beside.make().bid(1, 2, 10), NONE);
        due("a bid for the kind after", beside.make().bid(1, 4, 10), NONE);
    }

    private static void bidBanned() {
        refused("bid for a banned kind", STATE, MarketTest::bannedKind, x -> x.bid(1, 3, 1));
        refused("bid for a banned kind amid all", STATE, Worlds::busy, x -> x.bid(1, 2, 1));
        Trumpvault x = fourStates();
        x.ban(3, 1);
        x.ban(2, 0);
        due("bid the day before", x.bid(1, 3, 30), 1);
        due("bid the day before, not met", x.bid(1, 3, 30), NONE);
        x.pass(1);
        refused("bid on the day", STATE, x, y -> y.bid(1, 3, 1));
        x.pass(1);
        refused("bid on the day after", STATE, x, y -> y.bid(1, 3, 1));
        due("bid for another kind", x.bid(1, 4, 1), NONE);
        x.lift(3);
        due("bid as soon as it is lifted", x.bid(1, 3, 1), NONE);
    }

    private static void bidFirst() {
        for (int price : NO_PRICES) {
            refused("no player, no price", INDEX, Worlds::busy, x -> x.bid(5, 0, price));
            refused("no kind, no price", INDEX, Worlds::busy, x -> x.bid(0, 8, price));
            refused("no player, no kind, no price", INDEX, Worlds::busy, x -> x.bid(-1, -1, price));
            refused("no price, a bid already", ARGUMENT, Worlds::busy, x -> x.bid(3, 3, price));
            refused("no price, banned", ARGUMENT, Worlds::busy, x -> x.bid(1, 2, price));
        }
        refused("no player, banned", INDEX, Worlds::busy, x -> x.bid(5, 2, 1));
        refused("no kind, too few coins", INDEX, Worlds::busy, x -> x.bid(2, 8, 6));
        refused("no player, more than anybody's coins", INDEX, Worlds::busy, x -> x.bid(-1, 0, 1000));
        refused("no price, too few coins", ARGUMENT, Worlds::busy, x -> x.bid(2, 0, 1001));
        refused("1 more than the coins", STATE, Worlds::busy, x -> x.bid(2, 0, 6));
        refused("banned, a bid already, too few coins", STATE, Worlds::busy, x -> x.bid(2, 2, 1000));
        due("all the coins", Worlds.busy().bid(2, 0, 5), NONE);
    }

    private static void cancelSale() {
        Trumpvault x = Worlds.alike();
        x.sell(0, 1);
        x.sell(1, 1000);
        x.sell(4, 500);
        due("cancelSale of the first card", x.cancelSale(0), 1);
        dueFree("taken back", x, 0, 0);
        due("leastSale", x.leastSale(3), 500);
        due("cancelSale of the last card", x.cancelSale(4), 500);
        due("leastSale", x.leastSale(3), 1000);
        due("cancelSale of 1000", x.cancelSale(1), 1000);
        due("leastSale", x.leastSale(3), NONE);
        due("a bid does not meet what was taken back", x.bid(2, 3, 100), NONE);
        x.cancelBid(2, 3);
        x.sell(0, 70);
        due("cancelSale of a later sale", x.cancelSale(0), 70);
    }

    private static void cancelSaleCards() {
        for (int card : new int[] {-1, 13, 30, LEAST, MOST}) {
            refused("cancelSale", INDEX, Worlds::busy, x -> x.cancelSale(card));
        }
        refused("cancelSale of the 31st", INDEX, Worlds::full, x -> x.cancelSale(30));
        due("cancelSale of the 30th", Worlds.full().cancelSale(29), 12);
    }

    private static void cancelSaleNotOffered() {
        refused("cancelSale of a FREE card", STATE, MarketTest::fourStates, x -> x.cancelSale(0));
        refused("cancelSale of a SWAPPING card", STATE, MarketTest::fourStates, x -> x.cancelSale(2));
        refused("cancelSale of a LENT card", STATE, MarketTest::fourStates, x -> x.cancelSale(3));
        for (int card : new int[] {0, 3, 4, 5, 6, 9, 10, 12}) {
            refused("cancelSale of " + card + " amid all", STATE, Worlds::busy, x -> x.cancelSale(card));
        }
        refused("cancelSale of a card banned", STATE, MarketTest::bannedKind, x -> x.cancelSale(1));
        World twice = () -> {
            Trumpvault x = fourStates();
            x.cancelSale(1);
            return x;
        };
        refused("cancelSale again", STATE, twice, x -> x.cancelSale(1));
        World sold = () -> {
            Trumpvault x = fourStates();
            x.bid(1, 3, 30);
            return x;
        };
        refused("cancelSale of a card sold", STATE, sold, x -> x.cancelSale(1));
    }

    private static void cancelBid() {
        Trumpvault x = new Trumpvault();
        x.bid(0, 0, 1);
        x.bid(4, 7, 100);
        x.bid(0, 7, 99);
        due("cancelBid of the first player and kind", x.cancelBid(0, 0), 1);
        due("cancelBid of the last player and kind", x.cancelBid(4, 7), 100);
        due("greatestBid", x.greatestBid(7), 99);
        due("cancelBid", x.cancelBid(0, 7), 99);
        due("greatestBid", x.greatestBid(7), NONE);
        x.mint(1, 7);
        due("a sale does not meet what was taken back", x.sell(0, 1), 0);
        x.bid(4, 5, 8);
        x.cancelBid(4, 5);
        x.bid(4, 5, 9);
        due("cancelBid of a later bid", x.cancelBid(4, 5), 9);
    }

    private static void cancelBidCoins() {
        Trumpvault x = new Trumpvault();
        x.bid(2, 1, 100);
        due("coins", x.coins(2), 0);
        x.cancelBid(2, 1);
        due("coins after all came back", x.coins(2), 100);
        x.bid(2, 1, 40);
        x.bid(2, 2, 50);
        x.cancelBid(2, 1);
        due("coins after one of two came back", x.coins(2), 50);
        due("coins of another player", x.coins(1), 100);
    }

    private static void cancelBidPlayers() {
        for (int player : NO_PLAYERS) {
            refused("cancelBid", INDEX, Worlds::busy, x -> x.cancelBid(player, 3));
        }
        due("cancelBid of the first", Worlds.busy().cancelBid(0, 3), 10);
        due("cancelBid of the last", Worlds.busy().cancelBid(4, 3), 20);
    }

    private static void cancelBidKinds() {
        for (int kind : NO_KINDS) {
            refused("cancelBid", INDEX, Worlds::busy, x -> x.cancelBid(3, kind));
        }
        for (int kind : new int[] {0, 7}) {
            Trumpvault x = new Trumpvault();
            x.bid(3, kind, 6);
            due("cancelBid", x.cancelBid(3, kind), 6);
        }
    }

    private static void cancelBidNone() {
        refused("cancelBid of none", STATE, Worlds::empty, x -> x.cancelBid(0, 0));
        refused("cancelBid of another player's", STATE, Worlds::busy, x -> x.cancelBid(2, 3));
        refused("cancelBid of another kind's, before", STATE, Worlds::busy, x -> x.cancelBid(4, 2));
        refused("cancelBid of another kind's, after", STATE, Worlds::busy, x -> x.cancelBid(4, 4));
        World twice = () -> {
            Trumpvault x = Worlds.busy();
            x.cancelBid(4, 3);
            return x;
        };
        refused("cancelBid again", STATE, twice, x -> x.cancelBid(4, 3));
        World bought = () -> {
            Trumpvault x = Worlds.busy();
            x.mint(1, 3);
            x.sell(13, 20);
            return x;
        };
        refused("cancelBid of a bid that bought", STATE, bought, x -> x.cancelBid(4, 3));
        World banned = () -> {
            Trumpvault x = Worlds.busy();
            x.ban(3, 5);
            return x;
        };
        refused("cancelBid of a bid gone by a ban", STATE, banned, x -> x.cancelBid(4, 3));
    }

    private static void cancelBidFirst() {
        refused("no player, none there", INDEX, Worlds::empty, x -> x.cancelBid(5, 0));
        refused("no kind, none there", INDEX, Worlds::empty, x -> x.cancelBid(0, 8));
        refused("no player, no kind", INDEX, Worlds::empty, x -> x.cancelBid(-1, -1));
    }

    private static void leastSale() {
        Trumpvault x = Worlds.alike();
        x.mint(0, 2);
        x.mint(0, 4);
        x.sell(5, 1);
        x.sell(6, 1);
        x.sell(2, 50);
        due("of one", x.leastSale(3), 50);
        x.sell(4, 51);
        due("of two, the dearer since", x.leastSale(3), 50);
        x.sell(0, 49);
        due("of three, the cheaper since", x.leastSale(3), 49);
        x.cancelSale(0);
        due("of two again", x.leastSale(3), 50);
        x.bid(0, 3, 50);
        due("of one again", x.leastSale(3), 51);
        x.bid(4, 3, 100);
        due("one's own below one's bid", x.leastSale(3), 51);
    }

    private static void leastSaleEdges() {
        Trumpvault x = Worlds.oneEach();
        x.mint(0, 7);
        x.sell(0, 1000);
        x.sell(5, 1);
        due("1000, of the first kind", x.leastSale(0), 1000);
        due("1, of the last kind", x.leastSale(7), 1);
        refused("1001", ARGUMENT, x, y -> y.sell(1, 1001));
        refused("0", ARGUMENT, x, y -> y.sell(1, 0));
        due("after both were refused", x.leastSale(1), NONE);
    }

    private static void leastSaleNone() {
        Trumpvault x = fourStates();
        due("with one", x.leastSale(3), 30);
        due("of another kind", x.leastSale(2), NONE);
        x.cancelSale(1);
        due("with none, cards in other states", x.leastSale(3), NONE);
        x.sell(1, 20);
        x.bid(3, 3, 20);
        due("with none, sold", x.leastSale(3), NONE);
        x.sell(1, 20);
        x.ban(3, 0);
        due("with none, banned", x.leastSale(3), NONE);
        x.lift(3);
        due("with none, banned before", x.leastSale(3), NONE);
        x.bid(2, 3, 5);
        due("with none but a bid", x.leastSale(3), NONE);
    }

    private static void leastSaleKinds() {
        for (int kind : NO_KINDS) {
            refused("leastSale", INDEX, Worlds::empty, x -> x.leastSale(kind));
            refused("leastSale", INDEX, Worlds::busy, x -> x.leastSale(kind));
        }
        due("of the first", new Trumpvault().leastSale(0), NONE);
        due("of the last", new Trumpvault().leastSale(7), NONE);
    }

    private static void greatestBid() {
        Trumpvault x = new Trumpvault();
        x.bid(0, 2, 99);
        x.bid(0, 4, 1);
        x.bid(2, 3, 50);
        due("of one", x.greatestBid(3), 50);
        x.bid(4, 3, 49);
        due("of two, the lower since", x.greatestBid(3), 50);
        x.bid(1, 3, 51);
        due("of three, the higher since", x.greatestBid(3), 51);
        x.cancelBid(1, 3);
        due("of two again", x.greatestBid(3), 50);
        x.mint(1, 3);
        x.sell(0, 1);
        due("of one again", x.greatestBid(3), 49);
    }

    private static void greatestBidEdges() {
        Trumpvault x = rich(1005);
        x.bid(0, 0, 1000);
        x.bid(4, 7, 1);
        due("1000, of the first kind", x.greatestBid(0), 1000);
        due("1, of the last kind", x.greatestBid(7), 1);
        refused("1001", ARGUMENT, x, y -> y.bid(1, 1, 1001));
        refused("0", ARGUMENT, x, y -> y.bid(1, 1, 0));
        due("after both were refused", x.greatestBid(1), NONE);
    }

    private static void greatestBidNone() {
        Trumpvault x = Worlds.alike();
        due("of none", x.greatestBid(3), NONE);
        x.bid(0, 3, 1);
        due("of another kind", x.greatestBid(2), NONE);
        x.cancelBid(0, 3);
        due("taken back", x.greatestBid(3), NONE);
        x.bid(0, 3, 1);
        x.sell(1, 1);
        due("met", x.greatestBid(3), NONE);
        x.bid(0, 3, 1);
        x.ban(3, 0);
        due("banned", x.greatestBid(3), NONE);
        x.lift(3);
        due("banned before", x.greatestBid(3), NONE);
        x.sell(0, 1);
        due("none but a sale", x.greatestBid(3), NONE);
    }

    private static void greatestBidKinds() {
        for (int kind : NO_KINDS) {
            refused("greatestBid", INDEX, Worlds::empty, x -> x.greatestBid(kind));
            refused("greatestBid", INDEX, Worlds::busy, x -> x.greatestBid(kind));
        }
        due("of the first", new Trumpvault().greatestBid(0), NONE);
        due("of the last", new Trumpvault().greatestBid(7), NONE);
    }
}
