/** Promises 1 to 7: one test for each sentence that names a boundary, and for each throw. */
public final class CardsTest extends Check {
    // With 0, 1, 5, 13 and 30 cards: the first card that there is not is the count.
    private static final World[] WORLDS = {Worlds::empty, CardsTest::one, Worlds::oneEach, Worlds::busy, Worlds::full};
    private static final int[] COUNTS = {0, 1, 5, 13, 30};

    private CardsTest() {
    }

    public static void main(String[] args) {
        test("Promise 1: begins without cards", CardsTest::withoutCards);
        test("Promise 1: begins on the day 0", CardsTest::dayZero);
        test("Promise 1: begins without sales, bids, bans and decks", CardsTest::withoutAll);
        test("Promise 1: each object has its own", CardsTest::twoObjects);
        test("Promise 2: mints a card, which is FREE", CardsTest::mintFree);
        test("Promise 2: mints FREE cards beside a matching bid, a ban, a deck", CardsTest::mintAmidAll);
        test("Promise 2: returns its number, 0 to 29", CardsTest::mintNumbers);
        test("Promise 2: IndexOutOfBounds of the player", CardsTest::mintPlayers);
        test("Promise 2: IndexOutOfBounds of the kind", CardsTest::mintKinds);
        test("Promise 2: IllegalState if there are 30", CardsTest::mintFull);
        test("Promise 2: which throw comes first", CardsTest::mintFirst);
        test("Promise 3: owner as it is kept", CardsTest::owners);
        test("Promise 3: IndexOutOfBounds of the card", () -> noCards("owner", Trumpvault::owner));
        test("Promise 4: found from what was minted", CardsTest::historyMinted);
        test("Promise 4: found from what was sold", CardsTest::historySold);
        test("Promise 4: found from what was swapped", CardsTest::historySwapped);
        test("Promise 4: one after the other", CardsTest::historyInOrder);
        test("Promise 4: nothing else changes the owner", CardsTest::historyOfNothing);
        test("Promise 4: the last card of thirty", CardsTest::historyOfThirty);
        test("Promise 4: IndexOutOfBounds of the card", () -> noCards("ownerByHistory", Trumpvault::ownerByHistory));
        test("Promise 5: the holder", CardsTest::holders);
        test("Promise 5: IndexOutOfBounds of the card", () -> noCards("holder", Trumpvault::holder));
        test("Promise 6: the state", CardsTest::states);
        test("Promise 6: IndexOutOfBounds of the card", () -> noCards("stateOf", Trumpvault::stateOf));
        test("Promise 7: those given for bids are not among them", CardsTest::coinsWithoutBids);
        test("Promise 7: down to 0, up to all there are", CardsTest::coinsOfAll);
        test("Promise 7: IndexOutOfBounds of the player", CardsTest::coinsPlayers);
        end();
    }

    private interface CardQuestion {
        int of(Trumpvault x, int card);
    }

    private static Trumpvault one() {
        Trumpvault x = new Trumpvault();
        x.mint(3, 6);
        return x;
    }

    private static void noCards(String what, CardQuestion question) {
        for (int world = 0; world < WORLDS.length; world++) {
            int count = COUNTS[world];
            World made = WORLDS[world];
            for (int card : new int[] {-1, count, 30, 31, LEAST, MOST}) {
                refused(what + "(" + card + ") of " + count, INDEX, made, x -> question.of(x, card));
            }
            for (int card = 0; card < count; card++) {
                int taken = card;
                refused(what + "(" + card + ") of " + count, null, made, x -> question.of(x, taken));
            }
        }
    }

    private static void withoutCards() {
        for (int card : new int[] {-1, 0, 1, 29, 30, LEAST, MOST}) {
            refused("owner", INDEX, Worlds::empty, x -> x.owner(card));
            refused("ownerByHistory", INDEX, Worlds::empty, x -> x.ownerByHistory(card));
            refused("holder", INDEX, Worlds::empty, x -> x.holder(card));
            refused("stateOf", INDEX, Worlds::empty, x -> x.stateOf(card));
            refused("sell", INDEX, Worlds::empty, x -> x.sell(card, 1));
            refused("cancelSale", INDEX, Worlds::empty, x -> x.cancelSale(card));
            refused("swap", INDEX, Worlds::empty, x -> x.swap(card, card));
            refused("agree", INDEX, Worlds::empty, x -> x.agree(card));
            refused("cancelSwap", INDEX, Worlds::empty, x -> x.cancelSwap(card));
            refused("lend", INDEX, Worlds::empty, x -> x.lend(card, 0, 1));
            refused("toggleDeck", INDEX, Worlds::empty, x -> x.toggleDeck(0, card));
        }
        due("the first card", new Trumpvault().mint(0, 0), 0);
    }

    private static void dayZero() {
        due("pass(1)", new Trumpvault().pass(1), 1);
        due("pass(100)", new Trumpvault().pass(100), 100);
        Trumpvault x = one();
        due("lend for a day", x.lend(0, 0, 1), 1);
        refused("ban from the day -1", ARGUMENT, Worlds::empty, y -> y.ban(3, -1));
        refused("ban from the day 51", ARGUMENT, Worlds::empty, y -> y.ban(3, 51));
        due("ban from the day 0", x.ban(3, 0), 0);
        due("isBanned", x.isBanned(3), true);
        due("ban from the day 50", x.ban(3, 50), 0);
        due("isBanned", x.isBanned(3), false);
    }

    private static void withoutAll() {
        Trumpvault x = new Trumpvault();
        for (int kind = 0; kind < 8; kind++) {
            due("leastSale", x.leastSale(kind), NONE);
            due("greatestBid", x.greatestBid(kind), NONE);
            due("isBanned", x.isBanned(kind), false);
            due("lift", x.lift(kind), false);
        }
        for (int i = 0; i < 5; i++) {
            int player = i;
            due("coins", x.coins(player), 100);
            due("isRight", x.isRight(player), false);
            due("strength", x.strength(player), 0);
            for (int kind = 0; kind < 8; kind++) {
                int no = kind;
                refused("cancelBid", STATE, x, y -> y.cancelBid(player, no));
            }
        }
    }

    private static void twoObjects() {
        Trumpvault x = Worlds.busy();
        Trumpvault y = new Trumpvault();
        due("mint in the other", y.mint(4, 7), 0);
        due("coins in the other", y.coins(2), 100);
        due("greatestBid in the other", y.greatestBid(3), NONE);
        due("pass in the other", y.pass(1), 1);
        due("coins in the first", x.coins(2), 5);
        due("pass in the first", x.pass(1), 6);
    }

    private static void mintFree() {
        for (int player = 0; player < 5; player++) {
            for (int kind = 0; kind < 8; kind++) {
                Trumpvault x = new Trumpvault();
                due("mint", x.mint(player, kind), 0);
                dueFree("minted", x, 0, player);
                x.toggleDeck(0, 0);
                due("its kind and 1", x.strength(0), kind + 1);
            }
        }
    }

    private static void mintAmidAll() {
        Trumpvault x = new Trumpvault();
        x.bid(0, 2, 50);
        x.ban(3, 0);
        x.mint(1, 2);
        x.mint(1, 3);
        dueFree("minted beside a bid for its kind", x, 0, 1);
        dueFree("minted while its kind is banned", x, 1, 1);
        due("the bid stays", x.greatestBid(2), 50);
        due("the ban stays", x.isBanned(3), true);
        x.toggleDeck(1, 0);
        x.mint(1, 7);
        due("the deck stays", x.strength(1), 3);
    }

    private static void mintNumbers() {
        Trumpvault x = new Trumpvault();
        for (int card = 0; card < 30; card++) {
            due("mint", x.mint(4 - card % 5, 7 - card % 8), card);
        }
        for (int card = 0; card < 30; card++) {
            dueFree("of thirty", x, card, 4 - card % 5);
        }
    }

    private static void mintPlayers() {
        for (int player : NO_PLAYERS) {
            refused("mint", INDEX, Worlds::empty, x -> x.mint(player, 0));
            refused("mint", INDEX, Worlds::busy, x -> x.mint(player, 7));
        }
        due("mint of the first player", new Trumpvault().mint(0, 3), 0);
        due("mint of the last player", new Trumpvault().mint(4, 3), 0);
    }

    private static void mintKinds() {
        for (int kind : NO_KINDS) {
            refused("mint", INDEX, Worlds::empty, x -> x.mint(0, kind));
            refused("mint", INDEX, Worlds::busy, x -> x.mint(4, kind));
        }
        due("mint of the first kind", new Trumpvault().mint(2, 0), 0);
        due("mint of the last kind", new Trumpvault().mint(2, 7), 0);
    }

    private static void mintFull() {
        World but1 = () -> {
            Trumpvault x = new Trumpvault();
            for (int card = 0; card < 29; card++) {
                x.mint(0, 0);
            }
            return x;
        };
        due("mint with 29", but1.make().mint(4, 7), 29);
        refused("mint with 30", STATE, Worlds::full, x -> x.mint(0, 0));
        refused("mint with 30 amid all", STATE, Worlds::busyFull, x -> x.mint(3, 3));
        refused("mint with 30, of the last", STATE, Worlds::full, x -> x.mint(4, 7));
        Trumpvault x = Worlds.full();
        for (int again = 0; again < 5; again++) {
            refused("mint again", STATE, x, y -> y.mint(1, 1));
        }
        dueFree("the last card", x, 26, 1);
    }

    private static void mintFirst() {
        for (int player : NO_PLAYERS) {
            refused("no player, and 30 cards", INDEX, Worlds::full, x -> x.mint(player, 0));
        }
        for (int kind : NO_KINDS) {
            refused("no kind, and 30 cards", INDEX, Worlds::full, x -> x.mint(0, kind));
        }
        refused("no player, no kind, and 30 cards", INDEX, Worlds::full, x -> x.mint(5, 8));
    }

    private static void owners() {
        Trumpvault x = Worlds.oneEach();
        for (int card = 0; card < 5; card++) {
            due("owner", x.owner(card), card);
        }
        x.sell(0, 1);
        due("owner while it is OFFERED", x.owner(0), 0);
        x.swap(1, 2);
        due("owner while it is SWAPPING", x.owner(1), 1);
        x.lend(4, 3, 1);
        due("owner while it is LENT", x.owner(4), 4);
        x.bid(4, 0, 1);
        due("owner after a sale", x.owner(0), 4);
        x.agree(1);
        due("owner after a swap", x.owner(1), 2);
        due("owner of the other after a swap", x.owner(2), 1);
    }

    private static void historyMinted() {
        Trumpvault x = new Trumpvault();
        for (int card = 0; card < 30; card++) {
            x.mint(card % 5, 0);
            due("ownerByHistory", x.ownerByHistory(card), card % 5);
        }
        due("ownerByHistory of the first", x.ownerByHistory(0), 0);
    }

    private static void historySold() {
        Trumpvault x = Worlds.alike();
        x.bid(4, 3, 9);
        x.sell(0, 9);
        due("sold by a sale", x.ownerByHistory(0), 4);
        x.sell(1, 9);
        due("for sale", x.ownerByHistory(1), 1);
        x.bid(0, 3, 9);
        due("sold by a bid", x.ownerByHistory(1), 0);
    }

    private static void historySwapped() {
        Trumpvault x = Worlds.oneEach();
        x.swap(4, 0);
        due("told", x.ownerByHistory(4), 4);
        due("the other one told", x.ownerByHistory(0), 0);
        x.agree(4);
        due("swapped", x.ownerByHistory(4), 0);
        due("the other one swapped", x.ownerByHistory(0), 4);
        due("a card between", x.ownerByHistory(2), 2);
    }

    private static void historyInOrder() {
        Trumpvault x = Worlds.alike();
        for (int round = 1; round <= 12; round++) {
            x.sell(0, 7);
            x.bid(round % 5, 3, 7);
            due("sold on", x.ownerByHistory(0), round % 5);
            due("a card left alone", x.ownerByHistory(4), 4);
        }
        for (int round = 1; round <= 3; round++) {
            x.swap(0, 4);
            x.agree(0);
            due("swapped", x.ownerByHistory(0), round % 2 == 1 ? 4 : 2);
            due("the other one swapped", x.ownerByHistory(4), round % 2 == 1 ? 2 : 4);
        }
        x.sell(4, 1);
        x.bid(0, 3, 1);
        due("sold after the swaps", x.ownerByHistory(4), 0);
        x.mint(1, 3);
        due("sold, another one minted since", x.ownerByHistory(4), 0);
        due("swapped, others since", x.ownerByHistory(0), 4);
    }

    private static void historyOfNothing() {
        Trumpvault x = Worlds.oneEach();
        x.lend(0, 1, 1);
        due("lent", x.ownerByHistory(0), 0);
        x.pass(1);
        due("back", x.ownerByHistory(0), 0);
        x.sell(0, 1);
        x.cancelSale(0);
        due("a sale taken back", x.ownerByHistory(0), 0);
        x.swap(0, 1);
        x.cancelSwap(0);
        due("a swap taken back", x.ownerByHistory(0), 0);
        x.sell(0, 1);
        x.ban(0, 1);
        due("banned", x.ownerByHistory(0), 0);
        x.toggleDeck(4, 0);
        due("in another deck", x.ownerByHistory(0), 0);
    }

    private static void historyOfThirty() {
        Trumpvault x = new Trumpvault();
        for (int card = 0; card < 30; card++) {
            x.mint(card % 5, 6);
        }
        x.swap(29, 0);
        x.agree(29);
        dueFree("the last card swapped", x, 29, 0);
        dueFree("the first card swapped", x, 0, 4);
        x.sell(29, 3);
        due("the last card bought", x.bid(2, 6, 3), 29);
        dueFree("the last card sold", x, 29, 2);
    }

    private static void holders() {
        Trumpvault x = Worlds.oneEach();
        due("FREE", x.holder(0), 0);
        x.lend(0, 4, 2);
        due("LENT", x.holder(0), 4);
        x.pass(1);
        due("LENT, the last day", x.holder(0), 4);
        x.pass(1);
        due("back on the day", x.holder(0), 0);
        x.lend(0, 3, 1);
        due("LENT to another", x.holder(0), 3);
        x.pass(2);
        due("back over the day", x.holder(0), 0);
        x.sell(0, 1);
        due("OFFERED", x.holder(0), 0);
        x.bid(2, 0, 1);
        due("sold", x.holder(0), 2);
        x.swap(0, 4);
        due("SWAPPING", x.holder(0), 2);
        x.agree(0);
        due("swapped", x.holder(0), 4);
        due("the other one swapped", x.holder(4), 2);
    }

    private static void states() {
        Trumpvault x = Worlds.oneEach();
        due("minted", x.stateOf(0), 0);
        x.sell(0, 1);
        due("for sale", x.stateOf(0), 1);
        x.cancelSale(0);
        due("not for sale any more", x.stateOf(0), 0);
        x.swap(0, 4);
        due("told for a swap", x.stateOf(0), 2);
        due("the other one", x.stateOf(4), 0);
        x.cancelSwap(0);
        due("not told any more", x.stateOf(0), 0);
        x.lend(0, 4, 1);
        due("lent", x.stateOf(0), 3);
        x.pass(1);
        due("back", x.stateOf(0), 0);
        x.sell(0, 1);
        x.bid(1, 0, 1);
        due("sold", x.stateOf(0), 0);
        x.swap(0, 4);
        x.agree(0);
        due("swapped", x.stateOf(0), 0);
        due("the other one swapped", x.stateOf(4), 0);
    }

    private static void coinsWithoutBids() {
        Trumpvault x = new Trumpvault();
        for (int player = 0; player < 5; player++) {
            x.bid(player, 5, 10 + player);
            due("coins", x.coins(player), 90 - player);
        }
        x.bid(4, 6, 86);
        due("coins after two bids", x.coins(4), 0);
        x.cancelBid(4, 5);
        due("coins after one was taken back", x.coins(4), 14);
    }

    private static void coinsOfAll() {
        Trumpvault x = Worlds.alike();
        int coins = 100;
        for (int player = 1; player < 5; player++) {
            x.bid(player, 3, 100);
            due("coins of the bidder", x.coins(player), 0);
            x.mint(0, 3);
            x.sell(4 + player, 1);
            coins += 100;
            due("coins of the seller", x.coins(0), coins);
        }
        due("a bid of all there are", x.bid(0, 7, 500), NONE);
        due("coins of all", x.coins(0), 0);
    }

    private static void coinsPlayers() {
        for (int player : NO_PLAYERS) {
            refused("coins", INDEX, Worlds::empty, x -> x.coins(player));
            refused("coins", INDEX, Worlds::busy, x -> x.coins(player));
        }
        Trumpvault x = Worlds.busy();
        due("coins of the first", x.coins(0), 86);
        due("coins of the last", x.coins(4), 80);
    }
}
