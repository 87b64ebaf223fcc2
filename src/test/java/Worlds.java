/** Objects to begin a test with. */
final class Worlds {
    private Worlds() {
    }

    static Trumpvault empty() {
        return new Trumpvault();
    }

    /** Cards 0 to 4, each of the player and of the kind of its number. */
    static Trumpvault oneEach() {
        Trumpvault x = new Trumpvault();
        for (int player = 0; player < 5; player++) {
            x.mint(player, player);
        }
        return x;
    }

    /** Cards 0 to 4, all of the kind 3, each of the player of its number. */
    static Trumpvault alike() {
        Trumpvault x = new Trumpvault();
        for (int player = 0; player < 5; player++) {
            x.mint(player, 3);
        }
        return x;
    }

    /** Thirty cards, the most; one of them for sale, one told for a swap, one lent, some in decks, and a bid. */
    static Trumpvault full() {
        Trumpvault x = new Trumpvault();
        for (int card = 0; card < 30; card++) {
            x.mint(card % 5, card % 8);
        }
        x.sell(29, 12);
        x.swap(28, 0);
        x.lend(27, 4, 3);
        x.bid(1, 3, 45);
        x.toggleDeck(1, 26);
        x.toggleDeck(0, 29);
        x.ban(4, 2);
        return x;
    }

    /** The same as busy, with 30 cards, the most. */
    static Trumpvault busyFull() {
        Trumpvault x = busy();
        for (int card = 13; card < 30; card++) {
            x.mint(card % 5, card % 8);
        }
        return x;
    }

    /**
     * The day 5, and a reason for every refusal: of the cards 0 to 12 some are for sale (1 and 2), told for a swap
     * (3, 9, whose other is for sale, and 10, whose other has the same owner by now) and lent (4 and 12); the kind
     * 2 is banned and 6 will be; player 2 has 5 coins; decks 0, 2 and 3 are right, 1 is not, 4 is empty.
     */
    static Trumpvault busy() {
        Trumpvault x = new Trumpvault();
        int[][] cards = {{0, 3}, {1, 3}, {2, 3}, {3, 5}, {4, 5}, {0, 0}, {1, 2}, {2, 7}, {3, 7}, {4, 1}, {0, 1},
                {1, 4}, {1, 6}};
        for (int[] card : cards) {
            x.mint(card[0], card[1]);
        }
        x.ban(2, 3);
        x.pass(5);
        x.ban(6, 9);
        x.swap(10, 11);
        x.sell(11, 4);
        x.bid(0, 4, 4);
        x.sell(2, 40);
        x.sell(1, 40);
        x.swap(3, 0);
        x.swap(9, 1);
        x.lend(4, 0, 6);
        x.lend(12, 2, 3);
        x.bid(4, 3, 20);
        x.bid(3, 3, 20);
        x.bid(0, 3, 10);
        x.bid(1, 6, 30);
        x.bid(2, 4, 95);
        x.toggleDeck(0, 0);
        x.toggleDeck(0, 4);
        x.toggleDeck(1, 1);
        x.toggleDeck(2, 7);
        x.toggleDeck(3, 8);
        return x;
    }
}
