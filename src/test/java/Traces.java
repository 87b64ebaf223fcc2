import java.util.ArrayList;
import java.util.List;

/**
 * Whether a call changed anything: two objects are made alike, the call is made on one of them, and then both are
 * asked all that can be asked, and used until all that they hold inside has shown. No object gets more than 512
 * calls.
 */
final class Traces {
    private static final int CARDS = 30;
    private static final int PLAYERS = 5;
    private static final int KINDS = 8;
    private static final int DAYS = 8;

    private static final Probe[] PROBES = {Traces::questions, Traces::decks, Traces::strengths, Traces::offers,
            Traces::swaps, Traces::swapsBack, Traces::days, Traces::bans, Traces::orderOfBids, Traces::orderOfSales,
            Traces::numbers};
    private static final String[] NAMES = {"all answers", "the decks", "the kinds", "the sales and bids",
            "the swaps", "the swaps to be taken back", "the days, loans and bans", "the bans told",
            "the order of bids", "the order of sales", "the numbers of cards and days"};

    private Traces() {
    }

    private interface Ask {
        long of();
    }

    private interface Probe {
        void on(Trumpvault x, Trace trace);
    }

    /** The answers to a row of calls; those that the guide was refused are left out. */
    private static final class Trace {
        private final StringBuilder answers = new StringBuilder();
        private final List<Boolean> refusals = new ArrayList<>();
        private final Trace guide;

        Trace(Trace guide) {
            this.guide = guide;
        }

        void ask(Ask ask) {
            if (guide != null && guide.refusals.get(refusals.size())) {
                refusals.add(true);
                return;
            }
            try {
                answers.append(ask.of()).append(' ');
                refusals.add(false);
            } catch (RuntimeException thrown) {
                answers.append(thrown.getClass().getSimpleName()).append(' ');
                refusals.add(true);
            }
        }

        void ask(boolean answer) {
            ask(() -> answer ? 1 : 0);
        }
    }

    /** Twice: with all calls, and without those that are refused, which might hide what another one changed. */
    static void dueUnchanged(String what, Check.World world, Check.Call call) {
        for (int probe = 0; probe < PROBES.length; probe++) {
            Trace guide = trace(world.make(), PROBES[probe], null);
            Trace all = trace(called(world, call), PROBES[probe], null);
            Check.dueText(what + " " + NAMES[probe], all.answers.toString(), guide.answers.toString());
            Trace got = trace(called(world, call), PROBES[probe], guide);
            Trace want = trace(world.make(), PROBES[probe], guide);
            Check.dueText(what + " " + NAMES[probe], got.answers.toString(), want.answers.toString());
        }
    }

    private static Trumpvault called(Check.World world, Check.Call call) {
        Trumpvault x = world.make();
        Check.thrownBy(x, call);
        return x;
    }

    private static Trace trace(Trumpvault x, Probe probe, Trace guide) {
        Trace trace = new Trace(guide);
        probe.on(x, trace);
        return trace;
    }

    private static void questions(Trumpvault x, Trace trace) {
        for (int i = 0; i <= CARDS; i++) {
            int card = i;
            trace.ask(() -> x.owner(card));
            trace.ask(() -> x.ownerByHistory(card));
            trace.ask(() -> x.holder(card));
            trace.ask(() -> x.stateOf(card));
        }
        players(x, trace);
        market(x, trace);
    }

    private static void players(Trumpvault x, Trace trace) {
        for (int i = 0; i < PLAYERS; i++) {
            int player = i;
            trace.ask(() -> x.coins(player));
            trace.ask(() -> x.strength(player));
            trace.ask(x.isRight(player));
        }
    }

    private static void market(Trumpvault x, Trace trace) {
        for (int i = 0; i < KINDS; i++) {
            int kind = i;
            trace.ask(() -> x.leastSale(kind));
            trace.ask(() -> x.greatestBid(kind));
            trace.ask(x.isBanned(kind));
        }
    }

    private static void decks(Trumpvault x, Trace trace) {
        for (int i = 0; i < PLAYERS; i++) {
            for (int j = 0; j <= CARDS; j++) {
                int player = i;
                int card = j;
                trace.ask(() -> x.toggleDeck(player, card));
            }
        }
    }

    private static void strengths(Trumpvault x, Trace trace) {
        for (int i = 0; i <= CARDS; i++) {
            int card = i;
            trace.ask(() -> x.toggleDeck(4, card));
            trace.ask(() -> x.strength(4));
        }
    }

    private static void offers(Trumpvault x, Trace trace) {
        cancelSales(x, trace);
        cancelBids(x, trace);
        players(x, trace);
        market(x, trace);
    }

    private static void cancelSales(Trumpvault x, Trace trace) {
        for (int i = 0; i < CARDS; i++) {
            int card = i;
            trace.ask(() -> x.cancelSale(card));
        }
    }

    private static void cancelBids(Trumpvault x, Trace trace) {
        for (int i = 0; i < PLAYERS; i++) {
            for (int j = 0; j < KINDS; j++) {
                int player = i;
                int kind = j;
                trace.ask(() -> x.cancelBid(player, kind));
            }
        }
    }

    /** With nothing for sale any more, so that no swap is refused for that. */
    private static void swaps(Trumpvault x, Trace trace) {
        cancelSales(x, trace);
        for (int i = 0; i < CARDS; i++) {
            int card = i;
            trace.ask(() -> x.agree(card));
        }
        questions(x, trace);
    }

    private static void swapsBack(Trumpvault x, Trace trace) {
        for (int i = 0; i < CARDS; i++) {
            int card = i;
            trace.ask(() -> {
                x.cancelSwap(card);
                return 1;
            });
        }
        questions(x, trace);
    }

    private static void days(Trumpvault x, Trace trace) {
        for (int day = 0; day < DAYS; day++) {
            trace.ask(() -> x.pass(1));
            for (int i = 0; i < CARDS; i++) {
                int card = i;
                trace.ask(() -> x.stateOf(card));
            }
            for (int kind = 0; kind < KINDS; kind++) {
                trace.ask(x.isBanned(kind));
            }
        }
        players(x, trace);
    }

    private static void bans(Trumpvault x, Trace trace) {
        for (int kind = 0; kind < KINDS; kind++) {
            trace.ask(x.lift(kind));
        }
    }

    /** New cards of the player 2, and then all that can be sold, go to the best bids one after the other. */
    private static void orderOfBids(Trumpvault x, Trace trace) {
        int[] kinds = {3, 3, 3, 4, 6};
        for (int kind : kinds) {
            trace.ask(() -> {
                int card = x.mint(2, kind);
                return x.sell(card, 1) * 10L + x.owner(card);
            });
        }
        for (int i = 0; i < CARDS; i++) {
            int card = i;
            trace.ask(() -> x.sell(card, 1));
            trace.ask(() -> x.owner(card));
        }
        players(x, trace);
        market(x, trace);
    }

    /** The player 0, who has no bids any more, buys what there is of each kind. */
    private static void orderOfSales(Trumpvault x, Trace trace) {
        cancelBids(x, trace);
        for (int i = 0; i < KINDS; i++) {
            int kind = i;
            for (int bids = 0; bids < 3; bids++) {
                trace.ask(() -> x.bid(0, kind, 45));
            }
            trace.ask(() -> x.cancelBid(0, kind));
        }
        players(x, trace);
        market(x, trace);
    }

    private static void numbers(Trumpvault x, Trace trace) {
        trace.ask(() -> x.mint(1, 1));
        trace.ask(() -> x.lend(0, 4, 1));
        for (int i = 0; i <= 60; i++) {
            int day = i;
            trace.ask(() -> x.ban(1, day));
        }
        trace.ask(() -> x.pass(1));
    }
}
