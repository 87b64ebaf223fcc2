/** Promises 22 to 25: one test for each sentence that names a boundary, and for each throw. */
public final class DecksTest extends Check {
    private DecksTest() {
    }

    public static void main(String[] args) {
        deckTests();
        playTests();
        end();
    }

    private static void deckTests() {
        test("Promise 22: puts a card in, or takes it out", DecksTest::toggle);
        test("Promise 22: returns how many the deck has then, 0 to 30", DecksTest::toggleThirty);
        test("Promise 22: any card, in any state, of any owner", DecksTest::toggleAny);
        test("Promise 22: each player's deck alone", DecksTest::toggleAlone);
        test("Promise 22: IndexOutOfBounds of the player", DecksTest::togglePlayers);
        test("Promise 22: IndexOutOfBounds of the card", DecksTest::toggleCards);
        test("Promise 23: right with 1 to 5 cards", DecksTest::rightSizes);
        test("Promise 23: right by who holds it", DecksTest::rightHolders);
        test("Promise 23: wrong by one card, the first or the last of thirty", DecksTest::rightOfThirty);
        test("Promise 23: decks become wrong by a ban", DecksTest::rightBans);
        test("Promise 23: IndexOutOfBounds of the player", DecksTest::rightPlayers);
        test("Promise 24: the strength, right", DecksTest::strength);
        test("Promise 24: the strength, not right", DecksTest::strengthNotRight);
        test("Promise 24: IndexOutOfBounds of the player", DecksTest::strengthPlayers);
    }

    private static void playTests() {
        test("Promise 25: the stronger deck wins, by 1", DecksTest::playStronger);
        test("Promise 25: with decks alike the first one", DecksTest::playAlike);
        test("Promise 25: with decks alike of other cards the first one", DecksTest::playAlikeOfOthers);
        test("Promise 25: each player against each", DecksTest::playEach);
        test("Promise 25: the winner gets 5 coins", DecksTest::playCoins);
        test("Promise 25: a match changes nothing else", DecksTest::playChangesNothingElse);
        test("Promise 25: with the weakest and with the strongest right deck", DecksTest::playEdges);
        test("Promise 25: with a card that is lent", DecksTest::playLent);
        test("Promise 25: IndexOutOfBounds of either", DecksTest::playPlayers);
        test("Promise 25: IllegalArgument if both are the same", DecksTest::playSame);
        test("Promise 25: IllegalState if the first deck is not right", DecksTest::playFirstNotRight);
        test("Promise 25: IllegalState if the second deck is not right", DecksTest::playSecondNotRight);
        test("Promise 25: IllegalState if no deck is right", DecksTest::playNoneRight);
        test("Promise 25: which throw comes first", DecksTest::playFirst);
    }

    /** Thirty cards, the number's kind modulo 8, all of the player 3. */
    private static Trumpvault thirty() {
        Trumpvault x = new Trumpvault();
        for (int card = 0; card < 30; card++) {
            x.mint(3, card % 8);
        }
        return x;
    }

    /** Each player has one card, of the kind of its number, and it is the deck. */
    private static Trumpvault decks() {
        Trumpvault x = Worlds.oneEach();
        for (int player = 0; player < 5; player++) {
            x.toggleDeck(player, player);
        }
        return x;
    }

    private static void toggle() {
        Trumpvault x = Worlds.oneEach();
        due("in", x.toggleDeck(2, 4), 1);
        due("strength", x.strength(2), 5);
        due("out", x.toggleDeck(2, 4), 0);
        due("strength", x.strength(2), 0);
        due("in again", x.toggleDeck(2, 4), 1);
        due("another one in", x.toggleDeck(2, 0), 2);
        due("the first out", x.toggleDeck(2, 4), 1);
        due("strength", x.strength(2), 1);
    }

    private static void toggleThirty() {
        Trumpvault x = thirty();
        for (int card = 0; card < 30; card++) {
            due("in", x.toggleDeck(0, card), card + 1);
        }
        for (int card = 29; card >= 0; card--) {
            due("out", x.toggleDeck(0, card), card);
        }
        due("the last alone", x.toggleDeck(4, 29), 1);
        due("strength of the last alone", x.strength(4), 6);
        due("the first with it", x.toggleDeck(4, 0), 2);
        due("the last out", x.toggleDeck(4, 29), 1);
        due("strength of the first alone", x.strength(4), 1);
    }

    private static void toggleAny() {
        Trumpvault x = Worlds.oneEach();
        x.sell(1, 5);
        x.swap(2, 0);
        x.lend(3, 0, 1);
        x.ban(4, 0);
        due("FREE, one's own", x.toggleDeck(0, 0), 1);
        due("OFFERED", x.toggleDeck(0, 1), 2);
        due("SWAPPING", x.toggleDeck(0, 2), 3);
        due("LENT", x.toggleDeck(0, 3), 4);
        due("banned", x.toggleDeck(0, 4), 5);
        dueCard("a card in a deck", x, 1, 1, 1, OFFERED);
        due("strength", x.strength(0), 15);
        x.bid(2, 1, 5);
        due("a card stays in the deck when it is sold", x.strength(0), 15);
        due("out", x.toggleDeck(0, 1), 4);
    }

    private static void toggleAlone() {
        Trumpvault x = Worlds.oneEach();
        for (int player = 0; player < 5; player++) {
            due("one card in each deck", x.toggleDeck(player, 2), 1);
        }
        due("out of the first", x.toggleDeck(0, 2), 0);
        for (int player = 1; player < 5; player++) {
            due("strength of the others", x.strength(player), 3);
        }
    }

    private static void togglePlayers() {
        for (int player : NO_PLAYERS) {
            refused("toggleDeck", INDEX, Worlds::busy, x -> x.toggleDeck(player, 0));
            refused("toggleDeck, no card", INDEX, Worlds::busy, x -> x.toggleDeck(player, 13));
        }
        due("toggleDeck of the first", Worlds.busy().toggleDeck(0, 1), 3);
        due("toggleDeck of the last", Worlds.busy().toggleDeck(4, 12), 1);
    }

    private static void toggleCards() {
        for (int card : new int[] {-1, 13, 30, 31, 32, LEAST, MOST}) {
            refused("toggleDeck", INDEX, Worlds::busy, x -> x.toggleDeck(2, card));
        }
        for (int card : new int[] {-1, 30, 31, 32, 62}) {
            refused("toggleDeck of the 31st", INDEX, Worlds::full, x -> x.toggleDeck(1, card));
        }
        refused("toggleDeck of the first of none", INDEX, Worlds::empty, x -> x.toggleDeck(0, 0));
    }

    private static void rightSizes() {
        Trumpvault x = thirty();
        for (int card = 0; card < 30; card++) {
            due("with " + card, x.isRight(3), card >= 1 && card <= 5);
            x.toggleDeck(3, card);
        }
        due("with 30", x.isRight(3), false);
        for (int card = 0; card < 30; card++) {
            x.toggleDeck(3, card);
            int left = 29 - card;
            due("with " + left, x.isRight(3), left >= 1 && left <= 5);
        }
    }

    private static void rightHolders() {
        for (int owner = 0; owner < 5; owner++) {
            Trumpvault x = Worlds.oneEach();
            for (int player = 0; player < 5; player++) {
                x.toggleDeck(player, owner);
            }
            for (int player = 0; player < 5; player++) {
                due("isRight", x.isRight(player), player == owner);
            }
            int borrower = (owner + 1) % 5;
            x.lend(owner, borrower, 1);
            for (int player = 0; player < 5; player++) {
                due("isRight while it is lent", x.isRight(player), player == borrower);
            }
            x.pass(1);
            for (int player = 0; player < 5; player++) {
                due("isRight when it is back", x.isRight(player), player == owner);
            }
        }
    }

    private static void rightOfThirty() {
        for (int card : new int[] {0, 29}) {
            Trumpvault x = thirty();
            x.toggleDeck(3, 0);
            x.toggleDeck(3, 15);
            x.toggleDeck(3, 29);
            due("right", x.isRight(3), true);
            x.sell(card, 5);
            due("one for sale", x.isRight(3), false);
            x.cancelSale(card);
            x.lend(card, 0, 1);
            due("one lent away", x.isRight(3), false);
            x.pass(1);
            due("right again", x.isRight(3), true);
            x.ban(card % 8, 1);
            due("one banned", x.isRight(3), false);
        }
        Trumpvault x = thirty();
        x.toggleDeck(3, 15);
        x.sell(0, 5);
        x.sell(29, 5);
        x.sell(14, 5);
        x.sell(16, 5);
        due("others for sale", x.isRight(3), true);
    }

    private static void rightBans() {
        Trumpvault x = decks();
        for (int kind = 0; kind < 5; kind++) {
            x.ban(kind, 2);
        }
        x.pass(1);
        for (int player = 0; player < 5; player++) {
            due("the day before", x.isRight(player), true);
        }
        x.pass(1);
        for (int player = 0; player < 5; player++) {
            due("on the day", x.isRight(player), false);
            x.lift(player);
            due("lifted", x.isRight(player), true);
        }
    }

    private static void rightPlayers() {
        for (int player : NO_PLAYERS) {
            refused("isRight", INDEX, Worlds::empty, x -> x.isRight(player));
            refused("isRight", INDEX, Worlds::busy, x -> x.isRight(player));
        }
        due("of the first", decks().isRight(0), true);
        due("of the last", decks().isRight(4), true);
    }

    private static void strength() {
        Trumpvault x = thirty();
        int[] due = {1, 3, 6, 10, 15};
        due("of none", x.strength(3), 0);
        for (int card = 0; card < 5; card++) {
            x.toggleDeck(3, card);
            due("of " + (card + 1), x.strength(3), due[card]);
        }
        x.toggleDeck(3, 0);
        due("without the kind 0", x.strength(3), 14);
        x.toggleDeck(3, 8);
        due("with another card of the kind 0", x.strength(3), 15);
        x.toggleDeck(3, 7);
        due("with the kind 7", x.strength(3), 23);
    }

    private static void strengthNotRight() {
        Trumpvault x = thirty();
        due("empty", x.strength(2), 0);
        int sum = 0;
        for (int card = 0; card < 30; card++) {
            x.toggleDeck(2, card);
            sum += card % 8 + 1;
            due("cards of another", x.strength(2), sum);
        }
        due("of thirty", x.strength(2), 129);
        x.ban(5, 0);
        x.sell(20, 3);
        x.sell(0, 3);
        x.lend(1, 0, 1);
        due("with cards banned, for sale and lent", x.strength(2), 129);
        due("not right", x.isRight(2), false);
    }

    private static void strengthPlayers() {
        for (int player : NO_PLAYERS) {
            refused("strength", INDEX, Worlds::empty, x -> x.strength(player));
            refused("strength", INDEX, Worlds::busy, x -> x.strength(player));
        }
        due("of the first", decks().strength(0), 1);
        due("of the last", decks().strength(4), 5);
    }

    private static void playStronger() {
        due("the first by 1", decks().play(3, 2), 3);
        due("the second by 1", decks().play(2, 3), 3);
        due("the first by most", decks().play(4, 0), 4);
        due("the second by most", decks().play(0, 4), 4);
        Trumpvault x = Worlds.oneEach();
        x.mint(0, 5);
        x.toggleDeck(0, 0);
        x.toggleDeck(0, 5);
        x.toggleDeck(4, 4);
        due("two weak cards against one", x.play(4, 0), 0);
    }

    private static void playAlike() {
        Trumpvault x = Worlds.alike();
        for (int player = 0; player < 5; player++) {
            x.toggleDeck(player, player);
        }
        for (int player = 0; player < 5; player++) {
            for (int other = 0; other < 5; other++) {
                if (player != other) {
                    due("play(" + player + ", " + other + ")", x.play(player, other), player);
                }
            }
            due("coins", x.coins(player), 120);
        }
    }

    /** Decks of the same strength: the kinds 0 and 1, and the kind 2. */
    private static void playAlikeOfOthers() {
        Trumpvault x = new Trumpvault();
        x.mint(1, 0);
        x.mint(1, 1);
        x.mint(2, 2);
        x.toggleDeck(1, 0);
        x.toggleDeck(1, 1);
        x.toggleDeck(2, 2);
        due("the two cards first", x.play(1, 2), 1);
        due("the one card first", x.play(2, 1), 2);
    }

    private static void playEach() {
        Trumpvault x = decks();
        for (int player = 0; player < 5; player++) {
            for (int other = 0; other < 5; other++) {
                if (player != other) {
                    due("play(" + player + ", " + other + ")", x.play(player, other), Math.max(player, other));
                }
            }
        }
        for (int player = 0; player < 5; player++) {
            due("coins of " + player, x.coins(player), 100 + 2 * 5 * player);
        }
    }

    private static void playCoins() {
        Trumpvault x = decks();
        x.bid(1, 5, 100);
        x.play(0, 1);
        due("coins of the winner, 0 before", x.coins(1), 5);
        due("coins of the loser", x.coins(0), 100);
        due("a bid of what was won", x.bid(1, 6, 5), NONE);
        x.play(1, 0);
        due("coins of the winner again", x.coins(1), 5);
        due("coins of another player", x.coins(2), 100);
    }

    private static void playChangesNothingElse() {
        Trumpvault x = decks();
        x.play(2, 3);
        for (int player = 0; player < 5; player++) {
            due("strength", x.strength(player), player + 1);
            due("isRight", x.isRight(player), true);
            dueFree("a card of a deck", x, player, player);
        }
    }

    private static void playEdges() {
        Trumpvault x = new Trumpvault();
        for (int card = 0; card < 5; card++) {
            x.mint(4, 7);
            x.toggleDeck(4, card);
        }
        x.mint(0, 0);
        x.toggleDeck(0, 5);
        due("40 against 1", x.play(4, 0), 4);
        due("1 against 40", x.play(0, 4), 4);
        x.mint(4, 7);
        x.toggleDeck(4, 6);
        refused("6 cards against 1", STATE, x, y -> y.play(4, 0));
        refused("1 card against 6", STATE, x, y -> y.play(0, 4));
        x.toggleDeck(4, 0);
        due("5 cards again", x.play(0, 4), 4);
        x.toggleDeck(0, 5);
        refused("5 cards against 0", STATE, x, y -> y.play(4, 0));
    }

    private static void playLent() {
        World lent = () -> {
            Trumpvault x = Worlds.oneEach();
            x.toggleDeck(0, 0);
            x.toggleDeck(1, 4);
            x.toggleDeck(4, 4);
            x.lend(4, 1, 1);
            return x;
        };
        due("with a card lent", lent.make().play(0, 1), 1);
        refused("with a card lent away", STATE, lent, x -> x.play(0, 4));
        Trumpvault x = lent.make();
        x.pass(1);
        refused("with a card that went back", STATE, x, y -> y.play(0, 1));
        due("with a card that came back", x.play(0, 4), 4);
    }

    private static void playPlayers() {
        for (int player : NO_PLAYERS) {
            refused("play", INDEX, DecksTest::decks, x -> x.play(player, 0));
            refused("play against", INDEX, DecksTest::decks, x -> x.play(4, player));
        }
        due("the first and the last", decks().play(0, 4), 4);
    }

    private static void playSame() {
        for (int i = 0; i < 5; i++) {
            int player = i;
            refused("play with oneself amid all", ARGUMENT, Worlds::busy, x -> x.play(player, player));
            refused("play with oneself", ARGUMENT, DecksTest::decks, x -> x.play(player, player));
        }
    }

    /** Why a deck is not right: the deck of the player 2, with the card 2. */
    private static World[] notRight() {
        return new World[] {
            () -> after(x -> x.toggleDeck(2, 2)),
            () -> after(x -> x.sell(2, 5)),
            () -> after(x -> x.swap(2, 0)),
            () -> after(x -> x.lend(2, 0, 1)),
            () -> after(x -> x.ban(2, 0)),
            () -> after(x -> x.toggleDeck(2, 3)),
            DecksTest::sixCards
        };
    }

    private static Trumpvault after(Call call) {
        Trumpvault x = decks();
        call.on(x);
        return x;
    }

    private static Trumpvault sixCards() {
        Trumpvault x = decks();
        for (int card = 5; card < 10; card++) {
            x.mint(2, 0);
            x.toggleDeck(2, card);
        }
        return x;
    }

    private static void playFirstNotRight() {
        for (World world : notRight()) {
            refused("play", STATE, world, x -> x.play(2, 4));
            due("the others", world.make().play(3, 4), 4);
        }
    }

    private static void playSecondNotRight() {
        for (World world : notRight()) {
            refused("play", STATE, world, x -> x.play(4, 2));
        }
    }

    private static void playNoneRight() {
        refused("play without decks", STATE, Worlds::empty, x -> x.play(0, 1));
        refused("play with cards for sale", STATE, Worlds::busy, x -> x.play(1, 4));
        refused("play, the first right", STATE, Worlds::busy, x -> x.play(0, 1));
        refused("play, the second right", STATE, Worlds::busy, x -> x.play(4, 2));
    }

    private static void playFirst() {
        for (int player : NO_PLAYERS) {
            refused("no player, twice", INDEX, Worlds::empty, x -> x.play(player, player));
            refused("no player, no deck", INDEX, Worlds::busy, x -> x.play(player, 4));
            refused("no deck, no player", INDEX, Worlds::busy, x -> x.play(4, player));
        }
        for (int i = 0; i < 5; i++) {
            int player = i;
            refused("the same, no deck", ARGUMENT, Worlds::empty, x -> x.play(player, player));
        }
        refused("the same, not right", ARGUMENT, Worlds::busy, x -> x.play(1, 1));
    }
}
