import java.util.ArrayList;
import java.util.HashMap;
import java.util.List;
import java.util.Map;
import java.util.Set;
import java.util.TreeSet;

/**
 * Long made-up runs, always the same ones: each answer is compared with that of a second program, which keeps
 * lists of offers and of events, and the whole state is compared at the end of every second run.
 */
public final class ModelTest {
    private static final int RUNS = 1000;
    private static final int CALLS = 512;
    // Four for each of 30 cards and of two numbers that are none, three for each player and each kind.
    private static final int MOST_QUESTIONS = 4 * 32 + 3 * 5 + 3 * 8;
    private static final int MOST_TOLD = 20;

    private static int wrong = 0;

    /** A sale, if the card is not -1; otherwise a bid. */
    private record Order(int card, int player, int kind, int price) {
    }

    private record Loan(int borrower, int lastDay) {
    }

    /** A card minted (other is -1), sold (other is -1), or swapped with the other. */
    private record Event(int card, int player, int other) {
    }

    private static final class Model {
        final List<Integer> kinds = new ArrayList<>();
        final List<Event> events = new ArrayList<>();
        // In the order in which they were made.
        final List<Order> orders = new ArrayList<>();
        final Map<Integer, Integer> swaps = new HashMap<>();
        final Map<Integer, Loan> loans = new HashMap<>();
        final Map<Integer, Integer> bans = new HashMap<>();
        final List<Set<Integer>> decks = new ArrayList<>();
        final int[] purses = {100, 100, 100, 100, 100};
        int today = 0;

        Model() {
            for (int player = 0; player < 5; player++) {
                decks.add(new TreeSet<>());
            }
        }

        int owner(int card) {
            Map<Integer, Integer> owners = new HashMap<>();
            for (Event event : events) {
                if (event.other >= 0) {
                    int first = owners.get(event.card);
                    owners.put(event.card, owners.get(event.other));
                    owners.put(event.other, first);
                } else {
                    owners.put(event.card, event.player);
                }
            }
            return owners.get(card);
        }

        void index(boolean there) {
            if (!there) {
                throw new IndexOutOfBoundsException();
            }
        }

        void argument(boolean right) {
            if (!right) {
                throw new IllegalArgumentException();
            }
        }

        void state(boolean right) {
            if (!right) {
                throw new IllegalStateException();
            }
        }

        boolean isPlayer(int player) {
            return 0 <= player && player <= 4;
        }

        boolean isKind(int kind) {
            return 0 <= kind && kind <= 7;
        }

        boolean isCard(int card) {
            return 0 <= card && card < kinds.size();
        }

        Order saleOf(int card) {
            return orders.stream().filter(o -> o.card == card).findFirst().orElse(null);
        }

        Order bidOf(int player, int kind) {
            return orders.stream().filter(o -> o.card < 0 && o.player == player && o.kind == kind)
                    .findFirst().orElse(null);
        }

        boolean isBanned(int kind) {
            return bans.containsKey(kind) && bans.get(kind) <= today;
        }

        int stateOf(int card) {
            return saleOf(card) != null ? 1 : swaps.containsKey(card) ? 2 : loans.containsKey(card) ? 3 : 0;
        }

        int holder(int card) {
            return loans.containsKey(card) ? loans.get(card).borrower : owner(card);
        }

        int bestPrice(int kind, boolean sales) {
            var prices = orders.stream().filter(o -> o.kind == kind && o.card >= 0 == sales).mapToInt(o -> o.price);
            return sales ? prices.min().orElse(-1) : prices.max().orElse(-1);
        }

        /** The first of the best orders of the other side, by another player; null if its price is not enough. */
        Order match(Order made) {
            Order best = null;
            for (Order o : orders) {
                if (o.kind != made.kind || o.player == made.player || (o.card >= 0) == (made.card >= 0)) {
                    continue;
                }
                if (best == null || (o.card >= 0 ? o.price < best.price : o.price > best.price)) {
                    best = o;
                }
            }
            if (best == null) {
                return null;
            }
            int asked = made.card >= 0 ? made.price : best.price;
            int offered = made.card >= 0 ? best.price : made.price;
            return offered >= asked ? best : null;
        }

        /** Answers the order met, or null if the new one stays. */
        Order make(Order made) {
            if (made.card < 0) {
                purses[made.player] -= made.price;
            }
            Order met = match(made);
            if (met == null) {
                orders.add(made);
                return null;
            }
            orders.remove(met);
            Order sale = made.card >= 0 ? made : met;
            Order bid = made.card >= 0 ? met : made;
            purses[sale.player] += met.price;
            purses[bid.player] += bid.price - met.price;
            events.add(new Event(sale.card, bid.player, -1));
            return met;
        }

        int dropOrders(int kind) {
            int gone = 0;
            for (Order o : new ArrayList<>(orders)) {
                if (o.kind == kind) {
                    orders.remove(o);
                    purses[o.player] += o.card < 0 ? o.price : 0;
                    gone++;
                }
            }
            return gone;
        }

        boolean isRight(int player) {
            Set<Integer> deck = decks.get(player);
            return deck.size() >= 1 && deck.size() <= 5 && deck.stream().allMatch(card -> isPlayable(player, card));
        }

        boolean isPlayable(int player, int card) {
            return holder(card) == player && (stateOf(card) == 0 || stateOf(card) == 3) && !isBanned(kinds.get(card));
        }

        int strength(int player) {
            return decks.get(player).stream().mapToInt(card -> kinds.get(card) + 1).sum();
        }

        int call(int name, int a, int b, int c) {
            switch (name) {
                case 0:
                    index(isPlayer(a) && isKind(b));
                    state(kinds.size() < 30);
                    kinds.add(b);
                    events.add(new Event(kinds.size() - 1, a, -1));
                    return kinds.size() - 1;
                case 1:
                case 2:
                    index(isCard(a));
                    return owner(a);
                case 3:
                    index(isCard(a));
                    return holder(a);
                case 4:
                    index(isCard(a));
                    return stateOf(a);
                case 5:
                    index(isPlayer(a));
                    return purses[a];
                case 6:
                    return sell(a, b);
                case 7:
                    return bid(a, b, c);
                case 8:
                    index(isCard(a));
                    state(saleOf(a) != null);
                    Order sale = saleOf(a);
                    orders.remove(sale);
                    return sale.price;
                case 9:
                    index(isPlayer(a) && isKind(b));
                    state(bidOf(a, b) != null);
                    Order bid = bidOf(a, b);
                    orders.remove(bid);
                    purses[a] += bid.price;
                    return bid.price;
                case 10:
                case 11:
                    index(isKind(a));
                    return bestPrice(a, name == 10);
                default:
                    return laterCall(name, a, b, c);
            }
        }

        int laterCall(int name, int a, int b, int c) {
            switch (name) {
                case 12:
                    index(isCard(a) && isCard(b));
                    argument(owner(a) != owner(b));
                    state(stateOf(a) == 0);
                    swaps.put(a, b);
                    return 0;
                case 13:
                    return agree(a);
                case 14:
                    index(isCard(a));
                    state(stateOf(a) == 2);
                    swaps.remove(a);
                    return 0;
                case 15:
                    index(isCard(a) && isPlayer(b));
                    argument(c >= 1 && c <= 50 && owner(a) != b);
                    state(stateOf(a) == 0);
                    loans.put(a, new Loan(b, today + c));
                    return today + c;
                case 16:
                    index(isKind(a));
                    argument(b >= today && b <= today + 50);
                    bans.put(a, b);
                    return b == today ? dropOrders(a) : 0;
                case 17:
                    index(isKind(a));
                    return bans.remove(a) != null ? 1 : 0;
                case 18:
                    index(isKind(a));
                    return isBanned(a) ? 1 : 0;
                case 19:
                    return pass(a);
                case 20:
                    index(isPlayer(a) && isCard(b));
                    if (!decks.get(a).remove(b)) {
                        decks.get(a).add(b);
                    }
                    return decks.get(a).size();
                case 21:
                    index(isPlayer(a));
                    return isRight(a) ? 1 : 0;
                case 22:
                    index(isPlayer(a));
                    return strength(a);
                default:
                    index(isPlayer(a) && isPlayer(b));
                    argument(a != b);
                    state(isRight(a) && isRight(b));
                    int winner = strength(b) > strength(a) ? b : a;
                    purses[winner] += 5;
                    return winner;
            }
        }

        int sell(int card, int price) {
            index(isCard(card));
            argument(price >= 1 && price <= 1000);
            state(stateOf(card) == 0 && !isBanned(kinds.get(card)));
            Order met = make(new Order(card, owner(card), kinds.get(card), price));
            return met == null ? 0 : met.price;
        }

        int bid(int player, int kind, int price) {
            index(isPlayer(player) && isKind(kind));
            argument(price >= 1 && price <= 1000);
            state(purses[player] >= price && bidOf(player, kind) == null && !isBanned(kind));
            Order met = make(new Order(-1, player, kind, price));
            return met == null ? -1 : met.card;
        }

        int agree(int card) {
            index(isCard(card));
            state(stateOf(card) == 2);
            int other = swaps.get(card);
            state(stateOf(other) == 0 && owner(card) != owner(other));
            swaps.remove(card);
            events.add(new Event(card, -1, other));
            return other;
        }

        int pass(int days) {
            argument(days >= 1 && days <= 100);
            for (int day = 0; day < days; day++) {
                today++;
                loans.values().removeIf(loan -> loan.lastDay == today);
                bans.forEach((kind, from) -> {
                    if (from == today) {
                        dropOrders(kind);
                    }
                });
            }
            return today;
        }
    }

    private static final String[] NAMES = {"mint", "owner", "ownerByHistory", "holder", "stateOf", "coins", "sell",
        "bid", "cancelSale", "cancelBid", "leastSale", "greatestBid", "swap", "agree", "cancelSwap", "lend", "ban",
        "lift", "isBanned", "pass", "toggleDeck", "isRight", "strength", "play"};

    private static int callClass(Trumpvault x, int name, int a, int b, int c) {
        switch (name) {
            case 0: return x.mint(a, b);
            case 1: return x.owner(a);
            case 2: return x.ownerByHistory(a);
            case 3: return x.holder(a);
            case 4: return x.stateOf(a);
            case 5: return x.coins(a);
            case 6: return x.sell(a, b);
            case 7: return x.bid(a, b, c);
            case 8: return x.cancelSale(a);
            case 9: return x.cancelBid(a, b);
            case 10: return x.leastSale(a);
            case 11: return x.greatestBid(a);
            case 12: x.swap(a, b); return 0;
            case 13: return x.agree(a);
            case 14: x.cancelSwap(a); return 0;
            case 15: return x.lend(a, b, c);
            case 16: return x.ban(a, b);
            case 17: return x.lift(a) ? 1 : 0;
            case 18: return x.isBanned(a) ? 1 : 0;
            case 19: return x.pass(a);
            case 20: return x.toggleDeck(a, b);
            case 21: return x.isRight(a) ? 1 : 0;
            case 22: return x.strength(a);
            default: return x.play(a, b);
        }
    }

    private static String answer(Trumpvault x, Model model, int name, int a, int b, int c) {
        try {
            return "" + (x != null ? callClass(x, name, a, b, c) : model.call(name, a, b, c));
        } catch (RuntimeException e) {
            return "throws." + e.getClass().getSimpleName();
        }
    }

    private static void compare(String when, Trumpvault x, Model model, int name, int a, int b, int c) {
        String want = answer(null, model, name, a, b, c);
        String got = answer(x, model, name, a, b, c);
        if (!got.equals(want)) {
            wrong++;
            if (wrong <= MOST_TOLD) {
                System.out.println(when + ": " + NAMES[name] + "(" + a + ", " + b + ", " + c + ") answered " + got
                        + ", due is " + want);
            }
        }
    }

    private static void compareState(String when, Trumpvault x, Model model) {
        for (int card = -1; card <= model.kinds.size(); card++) {
            for (int name = 1; name <= 4; name++) {
                compare(when, x, model, name, card, 0, 0);
            }
        }
        for (int player = 0; player < 5; player++) {
            compare(when, x, model, 5, player, 0, 0);
            compare(when, x, model, 21, player, 0, 0);
            compare(when, x, model, 22, player, 0, 0);
        }
        for (int kind = 0; kind < 8; kind++) {
            compare(when, x, model, 10, kind, 0, 0);
            compare(when, x, model, 11, kind, 0, 0);
            compare(when, x, model, 18, kind, 0, 0);
        }
    }

    /** Numbers that look random and are the same in each run of the test. */
    private static final class Numbers {
        long seed;

        Numbers(long seed) {
            this.seed = seed;
        }

        int below(int bound) {
            seed = seed * 6364136223846793005L + 1442695040888963407L;
            return (int) ((seed >>> 33) % bound);
        }

        int mostly(int bound) {
            return below(40) == 0 ? below(bound + 4) - 2 : below(bound);
        }
    }

    private static final int[] ODD_PRICES = {-1, 0, 50, 100, 101, 999, 1000, 1001};

    private static int[] arguments(Numbers numbers, Model model, int name, int kinds) {
        int player = numbers.mostly(5);
        int card = numbers.mostly(Math.max(1, model.kinds.size()));
        int kind = numbers.below(30) == 0 ? numbers.mostly(8) : numbers.below(kinds);
        int price = numbers.below(30) == 0 ? ODD_PRICES[numbers.below(ODD_PRICES.length)] : 1 + numbers.below(12);
        switch (name) {
            case 0: return new int[] {player, kind, 0};
            case 6: return new int[] {card, price, 0};
            case 7: return new int[] {player, kind, price};
            case 9: return new int[] {player, kind, 0};
            case 10:
            case 11:
            case 17:
            case 18: return new int[] {kind, 0, 0};
            case 12: return new int[] {card, numbers.mostly(Math.max(1, model.kinds.size())), 0};
            case 15: return new int[] {card, player, numbers.below(20) == 0 ? numbers.below(60) - 3 : 1 + numbers.below(4)};
            case 16: return new int[] {kind, model.today + (numbers.below(10) == 0 ? numbers.below(60) - 4 : numbers.below(4)), 0};
            case 19: return new int[] {numbers.below(20) == 0 ? numbers.below(110) - 3 : 1 + numbers.below(3), 0, 0};
            case 13: return new int[] {swapping(numbers, model, card), 0, 0};
            case 20: return deckChange(numbers, model, player, card);
            case 5:
            case 21:
            case 22: return new int[] {player, 0, 0};
            case 23: return new int[] {player, numbers.mostly(5), 0};
            default: return new int[] {card, 0, 0};
        }
    }

    /** Mostly a card told for a swap, if there is one. */
    private static int swapping(Numbers numbers, Model model, int card) {
        for (int other = 0; other < model.kinds.size() && numbers.below(20) != 0; other++) {
            int found = (card + 30 + other) % model.kinds.size();
            if (model.stateOf(found) == 2) {
                return found;
            }
        }
        return card;
    }

    /** Mostly a change that brings a deck nearer to a right one: decks made blindly are hardly ever right. */
    private static int[] deckChange(Numbers numbers, Model model, int player, int card) {
        if (!model.isPlayer(player) || !model.isCard(card) || numbers.below(6) == 0) {
            return new int[] {player, card, 0};
        }
        Set<Integer> deck = model.decks.get(player);
        for (int bad : deck) {
            if (deck.size() > 5 || !model.isPlayable(player, bad)) {
                return new int[] {player, bad, 0};
            }
        }
        return new int[] {model.holder(card), card, 0};
    }

    // The calls that change much come often, so that few of the 512 are spent on questions.
    private static final int[] OFTEN = {0, 0, 6, 6, 6, 6, 7, 7, 7, 7, 12, 12, 13, 13, 13, 8, 9, 14, 15, 16, 17, 19,
        20, 20, 23, 23, 23};

    private static int nextCall(Numbers numbers) {
        return numbers.below(6) == 0 ? numbers.below(NAMES.length) : OFTEN[numbers.below(OFTEN.length)];
    }

    /** Every second run stops early, so that the questions at its end stay within the calls of an object. */
    private static void run(int run) {
        Numbers numbers = new Numbers(run);
        int kinds = 1 + numbers.below(8);
        boolean stopsEarly = run % 2 == 1;
        int length = stopsEarly ? 1 + numbers.below(CALLS - MOST_QUESTIONS) : CALLS;
        Trumpvault x = new Trumpvault();
        Model model = new Model();
        for (int call = 0; call < length; call++) {
            int name = nextCall(numbers);
            int[] of = arguments(numbers, model, name, kinds);
            compare("run " + run + ", call " + call, x, model, name, of[0], of[1], of[2]);
        }
        if (stopsEarly) {
            compareState("run " + run + " at its end", x, model);
        }
    }

    public static void main(String[] args) {
        for (int run = 0; run < RUNS && wrong < MOST_TOLD; run++) {
            run(run);
        }
        System.out.println(wrong == 0 ? "all answers are as due" : wrong + " answers are wrong");
        if (wrong > 0) {
            System.exit(1);
        }
    }
}
