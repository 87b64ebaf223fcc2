/** "What it is", "The public face" and "Terms": one test for each sentence that names a boundary. */
public final class TermsTest extends Check {
    private TermsTest() {
    }

    public static void main(String[] args) {
        test("Terms: the constants", TermsTest::constants);
        test("What it is: at most 512 calls", TermsTest::lastCall);
        test("What it is: at most 512 calls, all but the last of them moving cards", TermsTest::mostMoves);
        test("What it is: at most 512 calls, nearly all of them passing the most days", TermsTest::lastDay);
        test("Terms: the players 0 to 4", TermsTest::players);
        test("Terms: the kinds 0 to 7", TermsTest::kinds);
        test("Terms: each kind with each player", TermsTest::kindsOfPlayers);
        test("Terms: today is 0 at first", TermsTest::firstDay);
        test("Terms: coins, 100 at first", TermsTest::firstCoins);
        test("Terms: cards are numbered from 0, at most 30", TermsTest::cardNumbers);
        test("Terms: the holder of a card that is not LENT is its owner", TermsTest::holders);
        test("Terms: the price is taken when the bid is made", TermsTest::priceTaken);
        test("Terms: one bid for a kind at the most", TermsTest::oneBid);
        test("Terms: one bid for a kind, as many as there are kinds", TermsTest::bidForEachKind);
        test("Terms: numbers from 0: the first bid", TermsTest::firstBidNumber);
        test("Terms: numbers from 0: the first sale", TermsTest::firstSaleNumber);
        test("Terms: numbers in the order of making: bids", TermsTest::bidOrder);
        test("Terms: numbers in the order of making: sales", TermsTest::saleOrder);
        test("Terms: a sale is matched with the bid of its kind", TermsTest::saleOfKind);
        test("Terms: a sale is matched with a bid by another player", TermsTest::saleToAnother);
        test("Terms: a sale is matched with the greatest price", TermsTest::saleGreatest);
        test("Terms: a sale is matched with the lowest number of several", TermsTest::saleLowestNumber);
        test("Terms: a sale is matched if the bid is at least its price", TermsTest::saleAtLeast);
        test("Terms: a bid is matched with the sale of its kind", TermsTest::bidOfKind);
        test("Terms: a bid is matched with a sale by another player", TermsTest::bidFromAnother);
        test("Terms: a bid is matched with the least price", TermsTest::bidLeast);
        test("Terms: a bid is matched with the lowest number of several", TermsTest::bidLowestNumber);
        test("Terms: a bid is matched if the sale is at most its price", TermsTest::bidAtMost);
        test("Terms: the card goes to the bidder and is FREE", TermsTest::cardGoes);
        test("Terms: the earlier price is paid: the bid's", TermsTest::earlierBidPaid);
        test("Terms: the earlier price is paid: the sale's", TermsTest::earlierSalePaid);
        test("Terms: what the bidder had given more comes back", TermsTest::moreComesBack);
        test("Terms: a match: both are gone", TermsTest::bothGone);
        test("Terms: otherwise the sale or bid stays", TermsTest::stays);
        test("Terms: banned if that day is today or earlier", TermsTest::bannedFrom);
        test("Terms: as soon as it is, sales and bids are gone: today", TermsTest::goneToday);
        test("Terms: as soon as it is, sales and bids are gone: on the day", TermsTest::goneOnTheDay);
        test("Terms: as soon as it is, sales and bids are gone: over the day", TermsTest::goneOverTheDay);
        test("Terms: its sales and bids are gone, no others", TermsTest::othersStay);
        test("Terms: while it is banned, there are no sales and bids", TermsTest::noneWhileBanned);
        test("Terms: banned: only sales are taken, not swaps and loans", TermsTest::swapsAndLoansStay);
        test("Terms: a deck is empty at first", TermsTest::emptyDecks);
        test("Terms: right: 1 to 5 cards", TermsTest::deckSizes);
        test("Terms: right: the holder of each of them", TermsTest::deckHolders);
        test("Terms: right: none of them OFFERED", TermsTest::deckOffered);
        test("Terms: right: none of them SWAPPING", TermsTest::deckSwapping);
        test("Terms: right: LENT to the player", TermsTest::deckLent);
        test("Terms: right: none of a kind that is banned today", TermsTest::deckBanned);
        test("Terms: the strength is the sum of the kinds and 1 for each", TermsTest::strengths);
        test("Terms: the strength of all thirty cards", TermsTest::greatestStrength);
        test("Terms: IndexOutOfBoundsException if there is no such player", TermsTest::noPlayer);
        test("Terms: IndexOutOfBoundsException if there is no such kind", TermsTest::noKind);
        test("Terms: IndexOutOfBoundsException if there is no such card", TermsTest::noCard);
        end();
    }

    private static void constants() {
        due("NONE", Trumpvault.NONE, -1);
        due("FREE", Trumpvault.FREE, 0);
        due("OFFERED", Trumpvault.OFFERED, 1);
        due("SWAPPING", Trumpvault.SWAPPING, 2);
        due("LENT", Trumpvault.LENT, 3);
    }

    /** 510 calls: two cards that change their owners again and again. */
    private static Trumpvault swapped510() {
        Trumpvault x = new Trumpvault();
        x.mint(0, 0);
        x.mint(1, 0);
        for (int round = 0; round < 254; round++) {
            x.swap(0, 1);
            x.agree(0);
        }
        return x;
    }

    private static void lastCall() {
        Trumpvault even = swapped510();
        due("call 511: owner(0)", even.owner(0), 0);
        due("call 512: ownerByHistory(0)", even.ownerByHistory(0), 0);
        Trumpvault other = swapped510();
        due("call 511: ownerByHistory(1)", other.ownerByHistory(1), 1);
        due("call 512: mint", other.mint(4, 7), 2);
        Trumpvault odd = new Trumpvault();
        odd.mint(0, 0);
        odd.mint(1, 0);
        for (int round = 0; round < 253; round++) {
            odd.swap(0, 1);
            odd.agree(0);
        }
        odd.coins(0);
        due("call 510: owner(0)", odd.owner(0), 1);
        due("call 511: ownerByHistory(0)", odd.ownerByHistory(0), 1);
        due("call 512: ownerByHistory(1)", odd.ownerByHistory(1), 0);
    }

    /** 511 calls make 511 moves of cards, and the last of them is still found. */
    private static void mostMoves() {
        for (int card = 0; card < 3; card++) {
            Trumpvault x = new Trumpvault();
            for (int player = 0; player < 3; player++) {
                x.mint(player, 0);
            }
            for (int round = 0; round < 254; round++) {
                x.swap(0, 1 + round % 2);
                x.agree(0);
            }
            due("call 512: ownerByHistory(" + card + ")", x.ownerByHistory(card), ringOwner(card, 254));
        }
    }

    /** Who owns a card when card 0 was swapped in turn with card 1 and with card 2, so many times in all. */
    private static int ringOwner(int card, int swaps) {
        int[] owners = {0, 1, 2};
        for (int round = 0; round < swaps; round++) {
            int other = 1 + round % 2;
            int first = owners[0];
            owners[0] = owners[other];
            owners[other] = first;
        }
        return owners[card];
    }

    private static void lastDay() {
        Trumpvault x = new Trumpvault();
        x.mint(0, 0);
        for (int call = 1; call <= 500; call++) {
            due("pass", x.pass(100), call * 100);
        }
        refused("ban from the day before", ARGUMENT, x, y -> y.ban(1, 49999));
        refused("ban from too late a day", ARGUMENT, x, y -> y.ban(1, 50051));
        due("ban from the latest day", x.ban(1, 50050), 0);
        due("lend for the most days", x.lend(0, 1, 50), 50050);
        due("pass to the day before", x.pass(49), 50049);
        due("a loan on the day before", x.stateOf(0), LENT);
        due("pass to the day", x.pass(1), 50050);
        due("a loan on the day", x.stateOf(0), FREE);
        due("a ban on the day", x.isBanned(1), true);
        due("a kind never banned", x.isBanned(0), false);
    }

    private static void players() {
        Trumpvault x = new Trumpvault();
        due("mint of player 0", x.mint(0, 0), 0);
        due("mint of player 4", x.mint(4, 0), 1);
        refused("mint of player -1", INDEX, x, y -> y.mint(-1, 0));
        refused("mint of player 5", INDEX, x, y -> y.mint(5, 0));
        due("owner(0)", x.owner(0), 0);
        due("owner(1)", x.owner(1), 4);
    }

    private static void kinds() {
        Trumpvault x = new Trumpvault();
        due("mint of kind 0", x.mint(0, 0), 0);
        due("mint of kind 7", x.mint(0, 7), 1);
        refused("mint of kind -1", INDEX, x, y -> y.mint(0, -1));
        refused("mint of kind 8", INDEX, x, y -> y.mint(0, 8));
        x.sell(0, 10);
        x.sell(1, 70);
        due("leastSale(0)", x.leastSale(0), 10);
        due("leastSale(7)", x.leastSale(7), 70);
    }

    /** Each player bids for each kind, and the bids don't meet one another. */
    private static void kindsOfPlayers() {
        Trumpvault x = new Trumpvault();
        for (int player = 0; player < 5; player++) {
            for (int kind = 0; kind < 8; kind++) {
                due("bid", x.bid(player, kind, player + kind + 1), NONE);
            }
        }
        for (int kind = 0; kind < 8; kind++) {
            due("greatestBid(" + kind + ")", x.greatestBid(kind), kind + 5);
        }
        for (int player = 0; player < 5; player++) {
            for (int kind = 0; kind < 8; kind++) {
                due("cancelBid", x.cancelBid(player, kind), player + kind + 1);
            }
            due("coins", x.coins(player), 100);
        }
    }

    private static void firstDay() {
        refused("ban from the day -1", ARGUMENT, Worlds::empty, x -> x.ban(0, -1));
        Trumpvault x = new Trumpvault();
        x.ban(0, 0);
        x.ban(1, 1);
        due("a ban from the day 0", x.isBanned(0), true);
        due("a ban from the day 1", x.isBanned(1), false);
        due("pass(1)", x.pass(1), 1);
    }

    private static void firstCoins() {
        for (int i = 0; i < 5; i++) {
            int player = i;
            due("coins", new Trumpvault().coins(player), 100);
            due("a bid of 100", new Trumpvault().bid(player, 0, 100), NONE);
            refused("a bid of 101", STATE, Worlds::empty, x -> x.bid(player, 0, 101));
        }
    }

    private static void cardNumbers() {
        Trumpvault x = new Trumpvault();
        for (int card = 0; card < 30; card++) {
            int none = card;
            refused("owner of the next card", INDEX, x, y -> y.owner(none));
            due("mint", x.mint(card % 5, card % 8), card);
            due("owner", x.owner(card), card % 5);
        }
        refused("owner(-1)", INDEX, x, y -> y.owner(-1));
        refused("mint of the 31st", STATE, x, y -> y.mint(0, 0));
        refused("owner of the 31st", INDEX, x, y -> y.owner(30));
    }

    private static void holders() {
        Trumpvault x = Worlds.oneEach();
        dueFree("a card that is FREE", x, 0, 0);
        x.sell(1, 9);
        dueCard("a card that is OFFERED", x, 1, 1, 1, OFFERED);
        x.swap(2, 0);
        dueCard("a card that is SWAPPING", x, 2, 2, 2, SWAPPING);
        x.lend(4, 0, 1);
        dueCard("a card that is LENT", x, 4, 4, 0, LENT);
        x.lend(0, 4, 1);
        dueCard("a card that is LENT to the last player", x, 0, 0, 4, LENT);
    }

    private static void priceTaken() {
        Trumpvault x = new Trumpvault();
        x.bid(2, 0, 1);
        due("coins after a bid of 1", x.coins(2), 99);
        x.bid(2, 1, 99);
        due("coins after a bid of all", x.coins(2), 0);
        due("coins of another player", x.coins(1), 100);
    }

    private static void oneBid() {
        World one = () -> {
            Trumpvault x = new Trumpvault();
            x.bid(2, 3, 10);
            return x;
        };
        refused("a second bid, lower", STATE, one, x -> x.bid(2, 3, 9));
        refused("a second bid, alike", STATE, one, x -> x.bid(2, 3, 10));
        refused("a second bid, higher", STATE, one, x -> x.bid(2, 3, 11));
        Trumpvault x = one.make();
        due("a bid of another player", x.bid(3, 3, 10), NONE);
        due("a bid for the kind below", x.bid(2, 2, 10), NONE);
        due("a bid for the kind above", x.bid(2, 4, 10), NONE);
        x.cancelBid(2, 3);
        due("a bid after it was taken back", x.bid(2, 3, 12), NONE);
        x.mint(4, 3);
        x.sell(0, 12);
        due("a bid after it bought a card", x.bid(2, 3, 13), NONE);
        x.ban(3, 0);
        x.lift(3);
        due("a bid after it was gone by a ban", x.bid(2, 3, 14), NONE);
        refused("two at a time", STATE, x, y -> y.bid(2, 3, 1));
    }

    private static void bidForEachKind() {
        Trumpvault x = new Trumpvault();
        for (int kind = 0; kind < 8; kind++) {
            due("bid", x.bid(0, kind, 12), NONE);
        }
        for (int i = 0; i < 8; i++) {
            int kind = i;
            refused("a second bid", STATE, x, y -> y.bid(0, kind, 1));
        }
        due("coins", x.coins(0), 4);
    }

    /** The bid with the number 0 is one, and comes before the others of its price. */
    private static void firstBidNumber() {
        Trumpvault x = Worlds.alike();
        x.bid(4, 3, 6);
        x.bid(0, 3, 6);
        due("sell", x.sell(2, 6), 6);
        due("the first bid buys", x.owner(2), 4);
        due("sell to the second", x.sell(2, 6), 6);
        due("the second bid buys", x.owner(2), 0);
    }

    private static void firstSaleNumber() {
        Trumpvault x = Worlds.alike();
        x.sell(4, 6);
        x.sell(0, 6);
        due("bid", x.bid(2, 3, 6), 4);
        due("bid again", x.bid(2, 3, 6), 0);
    }

    /** A bid made again stands behind those that stayed, a sale in between or not. */
    private static void bidOrder() {
        Trumpvault x = Worlds.alike();
        x.bid(0, 3, 9);
        x.bid(1, 3, 9);
        x.sell(4, 50);
        x.bid(3, 3, 9);
        x.cancelBid(0, 3);
        x.bid(0, 3, 9);
        int[] order = {1, 3, 0};
        for (int bidder : order) {
            x.mint(2, 3);
        }
        for (int sale = 0; sale < order.length; sale++) {
            x.sell(5 + sale, 9);
            due("bidder " + sale, x.owner(5 + sale), order[sale]);
        }
    }

    private static void saleOrder() {
        Trumpvault x = Worlds.alike();
        x.sell(1, 9);
        x.sell(3, 9);
        x.bid(0, 3, 2);
        x.sell(2, 9);
        x.cancelSale(1);
        x.sell(1, 9);
        due("first", x.bid(4, 3, 9), 3);
        due("second", x.bid(4, 3, 9), 2);
        due("third", x.bid(4, 3, 9), 1);
    }

    private static void saleOfKind() {
        Trumpvault x = Worlds.alike();
        x.bid(1, 2, 90);
        x.bid(1, 4, 10);
        due("sell beside bids for other kinds", x.sell(0, 1), 0);
        x.cancelSale(0);
        x.bid(2, 3, 5);
        due("sell", x.sell(0, 5), 5);
        due("the bidder", x.owner(0), 2);
        due("the bid for kind 2", x.greatestBid(2), 90);
        due("the bid for kind 4", x.greatestBid(4), 10);
    }

    private static void saleToAnother() {
        for (int owner = 0; owner < 5; owner++) {
            Trumpvault x = Worlds.alike();
            int other = (owner + 3) % 5;
            x.bid(owner, 3, 90);
            due("sell with no bid but one's own", x.sell(owner, 1), 0);
            x.cancelSale(owner);
            x.bid(other, 3, 4);
            due("sell above the other's bid and below one's own", x.sell(owner, 5), 0);
            x.cancelSale(owner);
            due("sell at the other's bid", x.sell(owner, 4), 4);
            due("the bidder", x.owner(owner), other);
            due("one's own bid stays", x.greatestBid(3), 90);
        }
    }

    private static void saleGreatest() {
        for (int best = 0; best < 4; best++) {
            Trumpvault x = Worlds.alike();
            for (int player = 0; player < 4; player++) {
                x.bid(player, 3, player == best ? 51 : 50 - player);
            }
            due("sell", x.sell(4, 1), 51);
            due("the bidder", x.owner(4), best);
        }
    }

    private static void saleLowestNumber() {
        for (int first = 0; first < 4; first++) {
            Trumpvault x = Worlds.alike();
            for (int step = 0; step < 4; step++) {
                x.bid((first + step) % 4, 3, 20);
            }
            due("sell", x.sell(4, 20), 20);
            due("the bidder", x.owner(4), first);
        }
    }

    private static void saleAtLeast() {
        Trumpvault x = Worlds.alike();
        x.bid(1, 3, 20);
        due("sell for 1 more than the bid", x.sell(0, 21), 0);
        due("state", x.stateOf(0), OFFERED);
        due("sell for as much as the bid", x.sell(2, 20), 20);
        due("owner", x.owner(2), 1);
        x.bid(1, 3, 20);
        due("sell for 1 less than the bid", x.sell(3, 19), 20);
        due("owner", x.owner(3), 1);
    }

    private static void bidOfKind() {
        Trumpvault x = Worlds.oneEach();
        x.sell(2, 1);
        x.sell(4, 1);
        due("bid beside sales of other kinds", x.bid(0, 3, 100), NONE);
        x.cancelBid(0, 3);
        x.sell(3, 50);
        due("bid", x.bid(0, 3, 50), 3);
        due("the sale of kind 2", x.leastSale(2), 1);
        due("the sale of kind 4", x.leastSale(4), 1);
    }

    private static void bidFromAnother() {
        for (int owner = 0; owner < 5; owner++) {
            Trumpvault x = Worlds.alike();
            int other = (owner + 2) % 5;
            x.sell(owner, 1);
            due("bid with no sale but one's own", x.bid(owner, 3, 90), NONE);
            x.cancelBid(owner, 3);
            x.sell(other, 5);
            due("bid below the other's sale and above one's own", x.bid(owner, 3, 4), NONE);
            x.cancelBid(owner, 3);
            due("bid at the other's sale", x.bid(owner, 3, 5), other);
            due("one's own sale stays", x.stateOf(owner), OFFERED);
        }
    }

    private static void bidLeast() {
        for (int best = 0; best < 4; best++) {
            Trumpvault x = Worlds.alike();
            for (int card = 0; card < 4; card++) {
                x.sell(card, card == best ? 49 : 50 + card);
            }
            due("bid", x.bid(4, 3, 100), best);
            due("coins", x.coins(4), 51);
        }
    }

    private static void bidLowestNumber() {
        for (int first = 0; first < 4; first++) {
            Trumpvault x = Worlds.alike();
            for (int step = 0; step < 4; step++) {
                x.sell((first + step) % 4, 20);
            }
            due("bid", x.bid(4, 3, 20), first);
        }
    }

    private static void bidAtMost() {
        Trumpvault x = Worlds.alike();
        x.sell(0, 20);
        due("bid 1 less than the sale", x.bid(1, 3, 19), NONE);
        due("bid as much as the sale", x.bid(2, 3, 20), 0);
        x.cancelBid(1, 3);
        x.sell(3, 20);
        due("bid 1 more than the sale", x.bid(4, 3, 21), 3);
    }

    private static void cardGoes() {
        Trumpvault x = Worlds.alike();
        x.bid(4, 3, 20);
        x.sell(0, 20);
        dueFree("sold to a bid", x, 0, 4);
        x.sell(1, 20);
        x.bid(0, 3, 20);
        dueFree("bought from a sale", x, 1, 0);
        due("it can be sold on at once", x.sell(1, 20), 0);
    }

    private static void earlierBidPaid() {
        Trumpvault x = Worlds.alike();
        x.bid(1, 3, 30);
        due("sell for 1", x.sell(0, 1), 30);
        due("coins of the seller", x.coins(0), 130);
        due("coins of the bidder", x.coins(1), 70);
    }

    private static void earlierSalePaid() {
        Trumpvault x = Worlds.alike();
        x.sell(0, 1);
        due("bid 100", x.bid(1, 3, 100), 0);
        due("coins of the seller", x.coins(0), 101);
        due("coins of the bidder", x.coins(1), 99);
    }

    private static void moreComesBack() {
        Trumpvault x = Worlds.alike();
        x.sell(0, 40);
        x.bid(1, 3, 41);
        due("coins of a bidder with 1 more", x.coins(1), 60);
        x.sell(2, 40);
        x.bid(3, 3, 40);
        due("coins of a bidder with no more", x.coins(3), 60);
    }

    private static void bothGone() {
        Trumpvault x = Worlds.alike();
        x.bid(1, 3, 30);
        x.sell(0, 30);
        due("greatestBid after a sale", x.greatestBid(3), NONE);
        due("leastSale after a sale", x.leastSale(3), NONE);
        refused("cancelBid after a sale", STATE, x, y -> y.cancelBid(1, 3));
        refused("cancelSale after a sale", STATE, x, y -> y.cancelSale(0));
        x.sell(2, 30);
        x.bid(3, 3, 30);
        due("greatestBid after a bid", x.greatestBid(3), NONE);
        due("leastSale after a bid", x.leastSale(3), NONE);
        refused("cancelBid after a bid", STATE, x, y -> y.cancelBid(3, 3));
        refused("cancelSale after a bid", STATE, x, y -> y.cancelSale(2));
    }

    private static void stays() {
        Trumpvault x = Worlds.alike();
        x.sell(0, 20);
        x.bid(1, 3, 19);
        dueCard("a sale that stays", x, 0, 0, 0, OFFERED);
        due("leastSale", x.leastSale(3), 20);
        due("greatestBid", x.greatestBid(3), 19);
        due("coins of the bidder", x.coins(1), 81);
        due("coins of the seller", x.coins(0), 100);
        due("cancelSale", x.cancelSale(0), 20);
        due("cancelBid", x.cancelBid(1, 3), 19);
    }

    private static void bannedFrom() {
        Trumpvault x = new Trumpvault();
        x.pass(7);
        x.ban(0, 7);
        x.ban(1, 8);
        x.ban(7, 9);
        due("that day is today", x.isBanned(0), true);
        due("that day is tomorrow", x.isBanned(1), false);
        x.pass(1);
        due("that day is yesterday", x.isBanned(0), true);
        due("that day is today, after a day", x.isBanned(1), true);
        due("that day is tomorrow, after a day", x.isBanned(7), false);
        x.pass(100);
        due("that day is long ago", x.isBanned(0), true);
        due("that day is passed over", x.isBanned(7), true);
    }

    /** Sales and bids at the least and the greatest prices, of the kind 3; the day is 0. */
    private static Trumpvault market() {
        Trumpvault x = Worlds.alike();
        x.sell(0, 1000);
        x.sell(1, 101);
        x.sell(4, 500);
        x.bid(2, 3, 100);
        x.bid(3, 3, 1);
        x.bid(0, 3, 50);
        return x;
    }

    private static void dueStands(Trumpvault x) {
        due("leastSale", x.leastSale(3), 101);
        due("greatestBid", x.greatestBid(3), 100);
        due("coins(2)", x.coins(2), 0);
        due("state of 4", x.stateOf(4), OFFERED);
    }

    private static void dueGone(Trumpvault x) {
        due("leastSale", x.leastSale(3), NONE);
        due("greatestBid", x.greatestBid(3), NONE);
        for (int i = 0; i < 5; i++) {
            int one = i;
            due("coins", x.coins(one), 100);
            dueFree("a card", x, one, one);
            refused("cancelBid", STATE, x, y -> y.cancelBid(one, 3));
            refused("cancelSale", STATE, x, y -> y.cancelSale(one));
        }
    }

    private static void goneToday() {
        Trumpvault x = market();
        due("ban", x.ban(3, 0), 6);
        dueGone(x);
    }

    private static void goneOnTheDay() {
        Trumpvault x = market();
        due("ban", x.ban(3, 2), 0);
        dueStands(x);
        x.pass(1);
        dueStands(x);
        x.pass(1);
        dueGone(x);
    }

    private static void goneOverTheDay() {
        Trumpvault x = market();
        due("ban", x.ban(3, 1), 0);
        dueStands(x);
        x.pass(100);
        dueGone(x);
    }

    private static void othersStay() {
        for (int banned = 0; banned < 8; banned++) {
            Trumpvault now = new Trumpvault();
            Trumpvault later = new Trumpvault();
            for (int kind = 0; kind < 8; kind++) {
                for (Trumpvault x : new Trumpvault[] {now, later}) {
                    x.mint(0, kind);
                    x.sell(kind, 90 + kind);
                    x.bid(1, kind, 1 + kind);
                }
            }
            due("ban", now.ban(banned, 0), 2);
            later.ban(banned, 1);
            later.pass(1);
            for (int kind = 0; kind < 8; kind++) {
                boolean gone = kind == banned;
                for (Trumpvault x : new Trumpvault[] {now, later}) {
                    due("leastSale(" + kind + ")", x.leastSale(kind), gone ? NONE : 90 + kind);
                    due("greatestBid(" + kind + ")", x.greatestBid(kind), gone ? NONE : 1 + kind);
                    due("isBanned(" + kind + ")", x.isBanned(kind), gone);
                }
            }
            due("coins", now.coins(1), 100 - 36 + 1 + banned);
            due("coins", later.coins(1), 100 - 36 + 1 + banned);
        }
    }

    private static void noneWhileBanned() {
        World banned = () -> {
            Trumpvault x = market();
            x.ban(3, 0);
            return x;
        };
        refused("sell", STATE, banned, x -> x.sell(0, 10));
        refused("bid", STATE, banned, x -> x.bid(1, 3, 10));
        Trumpvault x = banned.make();
        x.pass(1);
        refused("sell a day after", STATE, x, y -> y.sell(0, 10));
        refused("bid a day after", STATE, x, y -> y.bid(1, 3, 10));
        x.lift(3);
        due("sell as soon as it is lifted", x.sell(0, 10), 0);
        due("bid as soon as it is lifted", x.bid(1, 3, 10), 0);
    }

    private static void swapsAndLoansStay() {
        Trumpvault x = Worlds.alike();
        x.swap(0, 1);
        x.lend(2, 3, 5);
        due("ban", x.ban(3, 0), 0);
        dueCard("a swap told", x, 0, 0, 0, SWAPPING);
        dueCard("a loan", x, 2, 2, 3, LENT);
        x.pass(4);
        dueCard("a loan a day before its end", x, 2, 2, 3, LENT);
        due("agree", x.agree(0), 1);
        dueFree("swapped", x, 0, 1);
        dueFree("swapped", x, 1, 0);
    }

    private static void emptyDecks() {
        Trumpvault x = Worlds.oneEach();
        for (int player = 0; player < 5; player++) {
            due("strength", x.strength(player), 0);
            due("isRight", x.isRight(player), false);
            due("toggleDeck of the first", x.toggleDeck(player, player), 1);
        }
    }

    private static void deckSizes() {
        Trumpvault x = new Trumpvault();
        for (int card = 0; card < 7; card++) {
            x.mint(1, card);
        }
        due("0 cards", x.isRight(1), false);
        x.toggleDeck(1, 0);
        due("1 card", x.isRight(1), true);
        x.toggleDeck(1, 1);
        due("2 cards", x.isRight(1), true);
        x.toggleDeck(1, 2);
        x.toggleDeck(1, 3);
        due("4 cards", x.isRight(1), true);
        due("the fifth", x.toggleDeck(1, 4), 5);
        due("5 cards", x.isRight(1), true);
        due("the sixth", x.toggleDeck(1, 5), 6);
        due("6 cards", x.isRight(1), false);
        due("the seventh", x.toggleDeck(1, 6), 7);
        due("7 cards", x.isRight(1), false);
        x.toggleDeck(1, 0);
        due("6 cards again", x.isRight(1), false);
        x.toggleDeck(1, 1);
        due("5 cards again", x.isRight(1), true);
    }

    /** A deck of the cards 0 to 4 of the player 2, so that one of them, the first to the last, may be wrong. */
    private static Trumpvault deckOfFive() {
        Trumpvault x = new Trumpvault();
        for (int card = 0; card < 5; card++) {
            x.mint(2, card);
            x.toggleDeck(2, card);
        }
        x.mint(3, 6);
        due("a right deck", x.isRight(2), true);
        return x;
    }

    private static void deckHolders() {
        for (int card = 0; card < 5; card++) {
            Trumpvault x = deckOfFive();
            x.lend(card, 0, 1);
            due("card " + card + " lent away", x.isRight(2), false);
            x.pass(1);
            due("card " + card + " back", x.isRight(2), true);
            x.sell(card, 1);
            x.bid(4, card, 1);
            due("card " + card + " sold", x.isRight(2), false);
            x.toggleDeck(2, card);
            due("card " + card + " taken out", x.isRight(2), true);
        }
    }

    private static void deckOffered() {
        for (int card = 0; card < 5; card++) {
            Trumpvault x = deckOfFive();
            x.sell(card, 1);
            due("card " + card + " for sale", x.isRight(2), false);
            x.cancelSale(card);
            due("card " + card + " free again", x.isRight(2), true);
        }
    }

    private static void deckSwapping() {
        for (int card = 0; card < 5; card++) {
            Trumpvault x = deckOfFive();
            x.swap(5, card);
            due("card " + card + " told as the other one", x.isRight(2), true);
            x.swap(card, 5);
            due("card " + card + " told for a swap", x.isRight(2), false);
            x.cancelSwap(card);
            due("card " + card + " free again", x.isRight(2), true);
        }
    }

    private static void deckLent() {
        Trumpvault x = Worlds.oneEach();
        x.toggleDeck(4, 0);
        due("a card of another owner", x.isRight(4), false);
        x.lend(0, 4, 2);
        due("a card lent to the player", x.isRight(4), true);
        x.pass(1);
        due("a card lent, the last day", x.isRight(4), true);
        x.pass(1);
        due("a card that went back", x.isRight(4), false);
    }

    private static void deckBanned() {
        for (int card = 0; card < 5; card++) {
            Trumpvault x = deckOfFive();
            x.ban(5, 0);
            due("another kind banned", x.isRight(2), true);
            x.ban(card, 2);
            x.pass(1);
            due("kind " + card + " banned from tomorrow on", x.isRight(2), true);
            x.pass(1);
            due("kind " + card + " banned from today on", x.isRight(2), false);
            x.pass(1);
            due("kind " + card + " banned from yesterday on", x.isRight(2), false);
            x.lift(card);
            due("kind " + card + " lifted", x.isRight(2), true);
        }
    }

    private static void strengths() {
        Trumpvault x = new Trumpvault();
        for (int kind = 0; kind < 8; kind++) {
            x.mint(0, kind);
        }
        for (int kind = 0; kind < 8; kind++) {
            x.toggleDeck(0, kind);
            due("kind " + kind, x.strength(0), kind + 1);
            x.toggleDeck(0, kind);
            due("none", x.strength(0), 0);
        }
        x.toggleDeck(0, 0);
        x.toggleDeck(0, 7);
        due("kinds 0 and 7", x.strength(0), 9);
    }

    private static void greatestStrength() {
        Trumpvault x = new Trumpvault();
        for (int card = 0; card < 30; card++) {
            x.mint(0, 7);
            due("toggleDeck", x.toggleDeck(4, card), card + 1);
        }
        due("strength", x.strength(4), 240);
        due("strength of another deck", x.strength(0), 0);
    }

    private static void noPlayer() {
        for (int player : NO_PLAYERS) {
            refused("mint", INDEX, Worlds::busy, x -> x.mint(player, 0));
            refused("coins", INDEX, Worlds::busy, x -> x.coins(player));
            refused("bid", INDEX, Worlds::busy, x -> x.bid(player, 0, 1));
            refused("cancelBid", INDEX, Worlds::busy, x -> x.cancelBid(player, 3));
            refused("lend", INDEX, Worlds::busy, x -> x.lend(0, player, 1));
            refused("toggleDeck", INDEX, Worlds::busy, x -> x.toggleDeck(player, 0));
            refused("isRight", INDEX, Worlds::busy, x -> x.isRight(player));
            refused("strength", INDEX, Worlds::busy, x -> x.strength(player));
            refused("play", INDEX, Worlds::busy, x -> x.play(player, 2));
            refused("play against", INDEX, Worlds::busy, x -> x.play(2, player));
        }
    }

    private static void noKind() {
        for (int kind : NO_KINDS) {
            refused("mint", INDEX, Worlds::busy, x -> x.mint(0, kind));
            refused("bid", INDEX, Worlds::busy, x -> x.bid(0, kind, 1));
            refused("cancelBid", INDEX, Worlds::busy, x -> x.cancelBid(0, kind));
            refused("leastSale", INDEX, Worlds::busy, x -> x.leastSale(kind));
            refused("greatestBid", INDEX, Worlds::busy, x -> x.greatestBid(kind));
            refused("ban", INDEX, Worlds::busy, x -> x.ban(kind, 5));
            refused("lift", INDEX, Worlds::busy, x -> x.lift(kind));
            refused("isBanned", INDEX, Worlds::busy, x -> x.isBanned(kind));
        }
    }

    private static void noCard() {
        for (int card : new int[] {-1, 13, 30, LEAST, MOST}) {
            refused("owner", INDEX, Worlds::busy, x -> x.owner(card));
            refused("ownerByHistory", INDEX, Worlds::busy, x -> x.ownerByHistory(card));
            refused("holder", INDEX, Worlds::busy, x -> x.holder(card));
            refused("stateOf", INDEX, Worlds::busy, x -> x.stateOf(card));
            refused("sell", INDEX, Worlds::busy, x -> x.sell(card, 1));
            refused("cancelSale", INDEX, Worlds::busy, x -> x.cancelSale(card));
            refused("swap", INDEX, Worlds::busy, x -> x.swap(card, 7));
            refused("swap for", INDEX, Worlds::busy, x -> x.swap(7, card));
            refused("agree", INDEX, Worlds::busy, x -> x.agree(card));
            refused("cancelSwap", INDEX, Worlds::busy, x -> x.cancelSwap(card));
            refused("lend", INDEX, Worlds::busy, x -> x.lend(card, 1, 1));
            refused("toggleDeck", INDEX, Worlds::busy, x -> x.toggleDeck(1, card));
        }
    }
}
