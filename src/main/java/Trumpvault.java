import java.util.Arrays;

/**
 * A card game's collections, market, bans, decks and matches on one clock.
 * The document ../shared/DOC.md says what each call promises.
 */
public final class Trumpvault {
    public static final int NONE = -1;
    public static final int FREE = 0, OFFERED = 1, SWAPPING = 2, LENT = 3;

    private static final int PLAYERS = 5;
    private static final int KINDS = 8;
    private static final int MOST_CARDS = 30;
    private static final int MOST_CALLS = 512;
    private static final int FIRST_COINS = 100;
    private static final int PRIZE = 5;
    private static final int GREATEST_PRICE = 1000;
    private static final int LONGEST_LOAN = 50;
    private static final int LATEST_BAN = 50;
    private static final int LONGEST_PASS = 100;
    private static final int LARGEST_RIGHT_DECK = 5;

    private final Cards cards;
    private final Bids bids;
    private final History history;
    private final int[] purses;
    private final int[] bannedFrom;
    // One bit for each card: thirty cards fit into an int.
    private final int[] decks;
    // Sales and bids are numbered both together.
    private int nextNumber;
    private int today;

    public Trumpvault() {
        cards = new Cards();
        bids = new Bids();
        history = new History();
        purses = new int[PLAYERS];
        Arrays.fill(purses, FIRST_COINS);
        bannedFrom = new int[KINDS];
        Arrays.fill(bannedFrom, NONE);
        decks = new int[PLAYERS];
        nextNumber = 0;
        today = 0;
    }

    // ---- cards

    public int mint(int player, int kind) throws IndexOutOfBoundsException, IllegalStateException {
        needPlayer(player);
        needKind(kind);
        if (cards.isFull()) {
            throw new IllegalStateException("there are as many cards as there can be");
        }
        int card = cards.add(player, kind);
        history.record(card, player);
        return card;
    }

    public int owner(int card) throws IndexOutOfBoundsException {
        needCard(card);
        return cards.owners[card];
    }

    public int ownerByHistory(int card) throws IndexOutOfBoundsException {
        needCard(card);
        return history.lastOwner(card);
    }

    public int holder(int card) throws IndexOutOfBoundsException {
        needCard(card);
        return cards.holderOf(card);
    }

    public int stateOf(int card) throws IndexOutOfBoundsException {
        needCard(card);
        return cards.states[card];
    }

    public int coins(int player) throws IndexOutOfBoundsException {
        needPlayer(player);
        return purses[player];
    }

    // ---- the market

    public int sell(int card, int price)
            throws IndexOutOfBoundsException, IllegalArgumentException, IllegalStateException {
        needCard(card);
        needPrice(price);
        int kind = cards.kinds[card];
        if (cards.states[card] != FREE || bannedToday(kind)) {
            throw new IllegalStateException("the card is not free, or its kind is banned");
        }
        int bidder = bids.bestBidder(kind, cards.owners[card]);
        if (bidder == NONE || bids.prices[bidder][kind] < price) {
            cards.putSale(card, price, nextNumber);
            nextNumber++;
            return 0;
        }
        // The bidder gave the whole price when the bid was made, so nothing comes back.
        int paid = bids.take(bidder, kind);
        purses[cards.owners[card]] += paid;
        giveTo(card, bidder);
        return paid;
    }

    public int bid(int player, int kind, int price)
            throws IndexOutOfBoundsException, IllegalArgumentException, IllegalStateException {
        needPlayer(player);
        needKind(kind);
        needPrice(price);
        if (purses[player] < price || bids.has(player, kind) || bannedToday(kind)) {
            throw new IllegalStateException("too few coins, a bid for the kind already, or a banned kind");
        }
        int card = cards.bestSale(kind, player);
        if (card == NONE || cards.salePrices[card] > price) {
            purses[player] -= price;
            bids.put(player, kind, price, nextNumber);
            nextNumber++;
            return NONE;
        }
        int paid = cards.takeSale(card);
        purses[player] -= paid;
        purses[cards.owners[card]] += paid;
        giveTo(card, player);
        return card;
    }

    public int cancelSale(int card) throws IndexOutOfBoundsException, IllegalStateException {
        needCard(card);
        if (cards.states[card] != OFFERED) {
            throw new IllegalStateException("the card is not for sale");
        }
        return cards.takeSale(card);
    }

    public int cancelBid(int player, int kind) throws IndexOutOfBoundsException, IllegalStateException {
        needPlayer(player);
        needKind(kind);
        if (!bids.has(player, kind)) {
            throw new IllegalStateException("the player has no bid for the kind");
        }
        return giveBidBack(player, kind);
    }

    public int leastSale(int kind) throws IndexOutOfBoundsException {
        needKind(kind);
        int card = cards.bestSale(kind, NONE);
        return card == NONE ? NONE : cards.salePrices[card];
    }

    public int greatestBid(int kind) throws IndexOutOfBoundsException {
        needKind(kind);
        int bidder = bids.bestBidder(kind, NONE);
        return bidder == NONE ? NONE : bids.prices[bidder][kind];
    }

    // ---- swaps and loans

    public void swap(int card, int other)
            throws IndexOutOfBoundsException, IllegalArgumentException, IllegalStateException {
        needCard(card);
        needCard(other);
        if (cards.owners[card] == cards.owners[other]) {
            throw new IllegalArgumentException("both cards have the same owner");
        }
        if (cards.states[card] != FREE) {
            throw new IllegalStateException("the card is not free");
        }
        cards.states[card] = SWAPPING;
        cards.swapOthers[card] = other;
    }

    public int agree(int card) throws IndexOutOfBoundsException, IllegalStateException {
        needCard(card);
        if (!cards.canBeSwapped(card)) {
            throw new IllegalStateException("the card can't be swapped now");
        }
        int other = cards.swapOthers[card];
        int firstOwner = cards.owners[card];
        giveTo(card, cards.owners[other]);
        giveTo(other, firstOwner);
        return other;
    }

    public void cancelSwap(int card) throws IndexOutOfBoundsException, IllegalStateException {
        needCard(card);
        if (cards.states[card] != SWAPPING) {
            throw new IllegalStateException("no swap is told of the card");
        }
        cards.states[card] = FREE;
    }

    public int lend(int card, int player, int days)
            throws IndexOutOfBoundsException, IllegalArgumentException, IllegalStateException {
        needCard(card);
        needPlayer(player);
        if (days < 1 || days > LONGEST_LOAN || player == cards.owners[card]) {
            throw new IllegalArgumentException("days out of range, or the player is the owner");
        }
        if (cards.states[card] != FREE) {
            throw new IllegalStateException("the card is not free");
        }
        int returnDay = today + days;
        cards.lendTo(card, player, returnDay);
        return returnDay;
    }

    // ---- bans and days

    public int ban(int kind, int day) throws IndexOutOfBoundsException, IllegalArgumentException {
        needKind(kind);
        if (day < today || day > today + LATEST_BAN) {
            throw new IllegalArgumentException("day out of range");
        }
        bannedFrom[kind] = day;
        return bannedToday(kind) ? clearMarket(kind) : 0;
    }

    public boolean lift(int kind) throws IndexOutOfBoundsException {
        needKind(kind);
        boolean wasThere = bannedFrom[kind] != NONE;
        bannedFrom[kind] = NONE;
        return wasThere;
    }

    public boolean isBanned(int kind) throws IndexOutOfBoundsException {
        needKind(kind);
        return bannedToday(kind);
    }

    public int pass(int days) throws IllegalArgumentException {
        if (days < 1 || days > LONGEST_PASS) {
            throw new IllegalArgumentException("days out of range");
        }
        today += days;
        cards.endLoans(today);
        for (int kind = 0; kind < KINDS; kind++) {
            if (bannedToday(kind)) {
                clearMarket(kind);
            }
        }
        return today;
    }

    // ---- decks and matches

    public int toggleDeck(int player, int card) throws IndexOutOfBoundsException {
        needPlayer(player);
        needCard(card);
        decks[player] ^= 1 << card;
        return Integer.bitCount(decks[player]);
    }

    public boolean isRight(int player) throws IndexOutOfBoundsException {
        needPlayer(player);
        return deckIsRight(player);
    }

    public int strength(int player) throws IndexOutOfBoundsException {
        needPlayer(player);
        return deckStrength(player);
    }

    public int play(int player, int other)
            throws IndexOutOfBoundsException, IllegalArgumentException, IllegalStateException {
        needPlayer(player);
        needPlayer(other);
        if (player == other) {
            throw new IllegalArgumentException("a match needs two players");
        }
        if (!deckIsRight(player) || !deckIsRight(other)) {
            throw new IllegalStateException("one of the decks is not right");
        }
        int winner = deckStrength(other) > deckStrength(player) ? other : player;
        purses[winner] += PRIZE;
        return winner;
    }

    // ---- what the calls share

    private static void needPlayer(int player) {
        if (player < 0 || player >= PLAYERS) {
            throw new IndexOutOfBoundsException("no such player");
        }
    }

    private static void needKind(int kind) {
        if (kind < 0 || kind >= KINDS) {
            throw new IndexOutOfBoundsException("no such kind");
        }
    }

    private void needCard(int card) {
        if (!cards.has(card)) {
            throw new IndexOutOfBoundsException("no such card");
        }
    }

    private static void needPrice(int price) {
        if (price < 1 || price > GREATEST_PRICE) {
            throw new IllegalArgumentException("price out of range");
        }
    }

    private boolean bannedToday(int kind) {
        return bannedFrom[kind] != NONE && bannedFrom[kind] <= today;
    }

    private void giveTo(int card, int player) {
        cards.owners[card] = player;
        cards.states[card] = FREE;
        history.record(card, player);
    }

    private int giveBidBack(int player, int kind) {
        int price = bids.take(player, kind);
        purses[player] += price;
        return price;
    }

    private int clearMarket(int kind) {
        int gone = cards.takeSalesOf(kind);
        for (int player = 0; player < PLAYERS; player++) {
            if (bids.has(player, kind)) {
                giveBidBack(player, kind);
                gone++;
            }
        }
        return gone;
    }

    private boolean inDeck(int player, int card) {
        return (decks[player] & (1 << card)) != 0;
    }

    private boolean deckIsRight(int player) {
        int size = Integer.bitCount(decks[player]);
        if (size < 1 || size > LARGEST_RIGHT_DECK) {
            return false;
        }
        for (int card = 0; card < cards.count; card++) {
            if (inDeck(player, card) && !isPlayable(player, card)) {
                return false;
            }
        }
        return true;
    }

    private boolean isPlayable(int player, int card) {
        int state = cards.states[card];
        return cards.holderOf(card) == player
                && state != OFFERED
                && state != SWAPPING
                && !bannedToday(cards.kinds[card]);
    }

    private int deckStrength(int player) {
        int sum = 0;
        for (int card = 0; card < cards.count; card++) {
            if (inDeck(player, card)) {
                sum += cards.kinds[card] + 1;
            }
        }
        return sum;
    }

    /** The cards by number; what belongs to a sale, a swap or a loan counts only while the state tells of one. */
    private static final class Cards {
        final int[] kinds = new int[MOST_CARDS];
        final int[] owners = new int[MOST_CARDS];
        final int[] states = new int[MOST_CARDS];
        final int[] salePrices = new int[MOST_CARDS];
        final int[] saleNumbers = new int[MOST_CARDS];
        final int[] swapOthers = new int[MOST_CARDS];
        final int[] borrowers = new int[MOST_CARDS];
        final int[] returnDays = new int[MOST_CARDS];
        int count = 0;

        boolean has(int card) {
            return card >= 0 && card < count;
        }

        boolean isFull() {
            return count >= MOST_CARDS;
        }

        /** To be called only while the cards are not full. */
        int add(int player, int kind) {
            int card = count;
            kinds[card] = kind;
            owners[card] = player;
            states[card] = FREE;
            count++;
            return card;
        }

        int holderOf(int card) {
            return states[card] == LENT ? borrowers[card] : owners[card];
        }

        void putSale(int card, int price, int number) {
            states[card] = OFFERED;
            salePrices[card] = price;
            saleNumbers[card] = number;
        }

        int takeSale(int card) {
            states[card] = FREE;
            return salePrices[card];
        }

        int takeSalesOf(int kind) {
            int taken = 0;
            for (int card = 0; card < count; card++) {
                if (isOnSale(card, kind)) {
                    takeSale(card);
                    taken++;
                }
            }
            return taken;
        }

        boolean isOnSale(int card, int kind) {
            return states[card] == OFFERED && kinds[card] == kind;
        }

        /** The card whose sale a bid meets first, the sales of one player left out; NONE leaves out nobody's. */
        int bestSale(int kind, int leftOut) {
            int best = NONE;
            for (int card = 0; card < count; card++) {
                if (isOnSale(card, kind) && owners[card] != leftOut
                        && (best == NONE || saleIsBefore(card, best))) {
                    best = card;
                }
            }
            return best;
        }

        boolean saleIsBefore(int card, int other) {
            return salePrices[card] < salePrices[other]
                    || salePrices[card] == salePrices[other] && saleNumbers[card] < saleNumbers[other];
        }

        boolean canBeSwapped(int card) {
            int other = swapOthers[card];
            return states[card] == SWAPPING
                    && has(other)
                    && states[other] == FREE
                    && owners[card] != owners[other];
        }

        void lendTo(int card, int player, int returnDay) {
            states[card] = LENT;
            borrowers[card] = player;
            returnDays[card] = returnDay;
        }

        void endLoans(int today) {
            for (int card = 0; card < count; card++) {
                if (states[card] == LENT && returnDays[card] <= today) {
                    states[card] = FREE;
                }
            }
        }
    }

    /** The bids by player and kind; there is one where the price is not 0. */
    private static final class Bids {
        final int[][] prices = new int[PLAYERS][KINDS];
        final int[][] numbers = new int[PLAYERS][KINDS];

        boolean has(int player, int kind) {
            return prices[player][kind] != 0;
        }

        void put(int player, int kind, int price, int number) {
            prices[player][kind] = price;
            numbers[player][kind] = number;
        }

        int take(int player, int kind) {
            int price = prices[player][kind];
            prices[player][kind] = 0;
            return price;
        }

        /** The player whose bid a sale meets first, one player left out; NONE leaves out nobody. */
        int bestBidder(int kind, int leftOut) {
            int best = NONE;
            for (int player = 0; player < PLAYERS; player++) {
                if (has(player, kind) && player != leftOut
                        && (best == NONE || isBefore(player, best, kind))) {
                    best = player;
                }
            }
            return best;
        }

        boolean isBefore(int player, int other, int kind) {
            int price = prices[player][kind];
            int otherPrice = prices[other][kind];
            return price > otherPrice
                    || price == otherPrice && numbers[player][kind] < numbers[other][kind];
        }
    }

    /** Who got which card, by minting, a sale or a swap, one after the other. */
    private static final class History {
        // A swap moves two cards, but takes two calls: there are never more moves than calls.
        final int[] movedCards = new int[MOST_CALLS];
        final int[] newOwners = new int[MOST_CALLS];
        int count = 0;

        void record(int card, int player) {
            if (count >= MOST_CALLS) {
                return;
            }
            movedCards[count] = card;
            newOwners[count] = player;
            count++;
        }

        int lastOwner(int card) {
            int owner = NONE;
            for (int move = 0; move < count; move++) {
                if (movedCards[move] == card) {
                    owner = newOwners[move];
                }
            }
            return owner;
        }
    }
}
