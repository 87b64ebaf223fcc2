/** Promises 18 to 21: one test for each sentence that names a boundary, and for each throw. */
public final class BansAndDaysTest extends Check {
    private static final int[] NO_PASS = {0, 101, -1, LEAST, MOST};

    private BansAndDaysTest() {
    }

    public static void main(String[] args) {
        banTests();
        liftTests();
        passTests();
        end();
    }

    private static void banTests() {
        test("Promise 18: bans from a day on", BansAndDaysTest::banFromADay);
        test("Promise 18: in place of another day: later for later", BansAndDaysTest::banLaterForLater);
        test("Promise 18: in place of another day: earlier for later", BansAndDaysTest::banEarlierForLater);
        test("Promise 18: in place of another day: later for today", BansAndDaysTest::banLaterForToday);
        test("Promise 18: in place of another day: today for later", BansAndDaysTest::banTodayForLater);
        test("Promise 18: day, today to today + 50", BansAndDaysTest::banDays);
        test("Promise 18: day, today to today + 50, today being later", BansAndDaysTest::banDaysLater);
        test("Promise 18: returns how many are gone: none", BansAndDaysTest::banNone);
        test("Promise 18: returns how many are gone: sales", BansAndDaysTest::banSales);
        test("Promise 18: returns how many are gone: bids", BansAndDaysTest::banBids);
        test("Promise 18: returns how many are gone: of thirty cards and four players", BansAndDaysTest::banMost);
        test("Promise 18: the first and the last kind", BansAndDaysTest::banFirstAndLast);
        test("Promise 18: IndexOutOfBounds of the kind", BansAndDaysTest::banKinds);
        test("Promise 18: IllegalArgument if day is out of range", BansAndDaysTest::banNoDays);
        test("Promise 18: which throw comes first", BansAndDaysTest::banFirst);
    }

    private static void liftTests() {
        test("Promise 19: lifts the ban, be it on today", BansAndDaysTest::liftToday);
        test("Promise 19: lifts the ban, be it on later", BansAndDaysTest::liftLater);
        test("Promise 19: lifts the ban, be it on since long", BansAndDaysTest::liftOld);
        test("Promise 19: returns true if there was one, else false", BansAndDaysTest::liftNone);
        test("Promise 19: lifts no other", BansAndDaysTest::liftNoOther);
        test("Promise 19: what is gone stays gone", BansAndDaysTest::liftGivesNothingBack);
        test("Promise 19: IndexOutOfBounds of the kind", BansAndDaysTest::liftKinds);
        test("Promise 20: banned today", BansAndDaysTest::isBanned);
        test("Promise 20: each kind alone", BansAndDaysTest::isBannedEach);
        test("Promise 20: IndexOutOfBounds of the kind", BansAndDaysTest::isBannedKinds);
    }

    private static void passTests() {
        test("Promise 21: days, 1 to 100", BansAndDaysTest::passDays);
        test("Promise 21: returns today then", BansAndDaysTest::passReturns);
        test("Promise 21: IllegalArgument if days is out of range", BansAndDaysTest::passNoDays);
        test("Promise 21: bans of all kinds on one day", BansAndDaysTest::passToAllBans);
        test("Promise 21: a loan's end and a ban on one day", BansAndDaysTest::passToLoanAndBan);
        test("Promise 21: changes nothing else", BansAndDaysTest::passChangesNothingElse);
    }

    private static void banFromADay() {
        Trumpvault x = new Trumpvault();
        x.ban(3, 0);
        due("from today, today", x.isBanned(3), true);
        x.pass(1);
        due("from yesterday", x.isBanned(3), true);
        x.ban(5, 3);
        due("two days before", x.isBanned(5), false);
        x.pass(1);
        due("the day before", x.isBanned(5), false);
        x.pass(1);
        due("on the day", x.isBanned(5), true);
        x.pass(1);
        due("the day after", x.isBanned(5), true);
    }

    private static void banLaterForLater() {
        Trumpvault x = new Trumpvault();
        x.ban(3, 2);
        x.ban(3, 4);
        x.pass(3);
        due("on the day told before", x.isBanned(3), false);
        x.pass(1);
        due("on the day told last", x.isBanned(3), true);
    }

    private static void banEarlierForLater() {
        Trumpvault x = new Trumpvault();
        x.ban(3, 4);
        x.ban(3, 2);
        x.pass(1);
        due("before both days", x.isBanned(3), false);
        x.pass(1);
        due("on the day told last", x.isBanned(3), true);
        due("lift", x.lift(3), true);
        x.pass(2);
        due("on the day told before, lifted", x.isBanned(3), false);
    }

    private static void banLaterForToday() {
        Trumpvault x = Worlds.alike();
        x.ban(3, 0);
        due("ban", x.ban(3, 1), 0);
        due("not any more today", x.isBanned(3), false);
        due("sell", x.sell(0, 60), 0);
        due("bid", x.bid(1, 3, 5), NONE);
        x.pass(1);
        due("on the day", x.isBanned(3), true);
        due("the sale is gone", x.leastSale(3), NONE);
        due("the bid is gone", x.coins(1), 100);
    }

    private static void banTodayForLater() {
        Trumpvault x = Worlds.alike();
        x.sell(0, 60);
        x.bid(1, 3, 5);
        due("ban later", x.ban(3, 50), 0);
        due("ban today", x.ban(3, 0), 2);
        due("isBanned", x.isBanned(3), true);
        due("ban today again", x.ban(3, 0), 0);
        due("isBanned still", x.isBanned(3), true);
    }

    private static void banDays() {
        for (int day : new int[] {0, 1, 49, 50}) {
            Trumpvault x = new Trumpvault();
            due("ban", x.ban(3, day), 0);
            due("isBanned", x.isBanned(3), day == 0);
            if (day > 1) {
                x.pass(day - 1);
                due("isBanned the day before", x.isBanned(3), false);
            }
            if (day > 0) {
                x.pass(1);
                due("isBanned on the day", x.isBanned(3), true);
            }
        }
        refused("ban from the day -1", ARGUMENT, Worlds::empty, x -> x.ban(3, -1));
        refused("ban from the day 51", ARGUMENT, Worlds::empty, x -> x.ban(3, 51));
    }

    private static void banDaysLater() {
        for (int today : new int[] {1, 50, 51, 100}) {
            World later = () -> {
                Trumpvault x = new Trumpvault();
                x.pass(today);
                return x;
            };
            refused("ban from yesterday", ARGUMENT, later, x -> x.ban(3, today - 1));
            refused("ban from today + 51", ARGUMENT, later, x -> x.ban(3, today + 51));
            refused("ban from the day -1", ARGUMENT, later, x -> x.ban(3, -1));
            Trumpvault x = later.make();
            due("ban from today + 50", x.ban(3, today + 50), 0);
            due("isBanned", x.isBanned(3), false);
            due("ban from today", x.ban(4, today), 0);
            due("isBanned", x.isBanned(4), true);
            x.pass(49);
            due("isBanned after 49", x.isBanned(3), false);
            x.pass(1);
            due("isBanned after 50", x.isBanned(3), true);
        }
    }

    private static void banNone() {
        due("of an empty market", new Trumpvault().ban(3, 0), 0);
        Trumpvault x = Worlds.alike();
        x.swap(0, 1);
        x.lend(2, 3, 1);
        x.bid(1, 2, 5);
        x.bid(1, 4, 5);
        due("of cards in other states, and bids for other kinds", x.ban(3, 0), 0);
        Trumpvault y = Worlds.alike();
        y.sell(0, 60);
        y.bid(1, 3, 5);
        due("of a ban to come", y.ban(3, 1), 0);
        due("the sale stays", y.leastSale(3), 60);
        due("the bid stays", y.greatestBid(3), 5);
    }

    private static void banSales() {
        for (int sales = 0; sales <= 5; sales++) {
            Trumpvault x = Worlds.alike();
            for (int card = 0; card < sales; card++) {
                x.sell(card, 1000);
            }
            due("of " + sales + " sales", x.ban(3, 0), sales);
            for (int card = 0; card < 5; card++) {
                dueFree("a card", x, card, card);
            }
        }
    }

    private static void banBids() {
        for (int bids = 0; bids <= 5; bids++) {
            Trumpvault x = new Trumpvault();
            for (int player = 0; player < bids; player++) {
                x.bid(player, 3, 100 - player);
            }
            due("of " + bids + " bids", x.ban(3, 0), bids);
            for (int player = 0; player < 5; player++) {
                due("coins", x.coins(player), 100);
            }
        }
    }

    private static void banMost() {
        Trumpvault x = new Trumpvault();
        for (int card = 0; card < 30; card++) {
            x.mint(2, 7);
            x.sell(card, 500);
        }
        for (int player = 0; player < 5; player++) {
            x.bid(player, 7, 100);
        }
        due("ban", x.ban(7, 0), 35);
        due("the first card", x.stateOf(0), FREE);
        due("the last card", x.stateOf(29), FREE);
        due("coins of the first", x.coins(0), 100);
        due("coins of the last", x.coins(4), 100);
    }

    private static void banFirstAndLast() {
        Trumpvault x = new Trumpvault();
        due("ban of the first", x.ban(0, 0), 0);
        due("ban of the last", x.ban(7, 0), 0);
        due("isBanned(0)", x.isBanned(0), true);
        due("isBanned(1)", x.isBanned(1), false);
        due("isBanned(6)", x.isBanned(6), false);
        due("isBanned(7)", x.isBanned(7), true);
    }

    private static void banKinds() {
        for (int kind : NO_KINDS) {
            refused("ban from today", INDEX, Worlds::empty, x -> x.ban(kind, 0));
            refused("ban from later", INDEX, Worlds::busy, x -> x.ban(kind, 6));
        }
    }

    private static void banNoDays() {
        for (int day : new int[] {4, 56, 0, -1, LEAST, MOST}) {
            for (int i = 0; i < 8; i++) {
                int kind = i;
                refused("ban on the day 5", ARGUMENT, Worlds::busy, x -> x.ban(kind, day));
            }
        }
        due("ban from the day 5", Worlds.busy().ban(3, 5), 5);
        due("ban from the day 55", Worlds.busy().ban(3, 55), 0);
    }

    private static void banFirst() {
        for (int kind : NO_KINDS) {
            for (int day : new int[] {4, 56, -1, LEAST, MOST}) {
                refused("no kind, no day", INDEX, Worlds::busy, x -> x.ban(kind, day));
            }
        }
    }

    private static void liftToday() {
        Trumpvault x = Worlds.alike();
        x.ban(3, 0);
        due("lift", x.lift(3), true);
        due("isBanned", x.isBanned(3), false);
        due("sell", x.sell(0, 5), 0);
        x.pass(1);
        due("isBanned tomorrow", x.isBanned(3), false);
        due("the sale stays", x.leastSale(3), 5);
    }

    private static void liftLater() {
        for (int day : new int[] {1, 50}) {
            Trumpvault x = Worlds.alike();
            x.ban(3, day);
            x.sell(0, 5);
            due("lift", x.lift(3), true);
            x.pass(day);
            due("isBanned on the day", x.isBanned(3), false);
            due("the sale stays", x.leastSale(3), 5);
        }
    }

    private static void liftOld() {
        Trumpvault x = new Trumpvault();
        x.ban(3, 0);
        x.ban(4, 1);
        x.pass(100);
        due("lift of a ban from the day 0", x.lift(3), true);
        due("lift of a ban from the day 1", x.lift(4), true);
        due("isBanned", x.isBanned(3), false);
        due("isBanned", x.isBanned(4), false);
    }

    private static void liftNone() {
        Trumpvault x = new Trumpvault();
        due("of none", x.lift(3), false);
        x.ban(3, 0);
        due("of one", x.lift(3), true);
        due("of one lifted", x.lift(3), false);
        x.pass(1);
        due("of none, a day later", x.lift(3), false);
        x.ban(3, 51);
        due("of one on the last day there can be", x.lift(3), true);
        due("of one lifted before its day", x.lift(3), false);
        x.ban(3, 20);
        x.ban(3, 30);
        due("of one in place of another", x.lift(3), true);
        due("of both", x.lift(3), false);
    }

    private static void liftNoOther() {
        for (int lifted = 0; lifted < 8; lifted++) {
            Trumpvault x = new Trumpvault();
            for (int kind = 0; kind < 8; kind++) {
                x.ban(kind, 0);
            }
            due("lift", x.lift(lifted), true);
            for (int kind = 0; kind < 8; kind++) {
                due("isBanned(" + kind + ")", x.isBanned(kind), kind != lifted);
            }
        }
    }

    private static void liftGivesNothingBack() {
        Trumpvault x = Worlds.alike();
        x.sell(0, 60);
        x.bid(1, 3, 5);
        x.ban(3, 0);
        x.lift(3);
        due("leastSale", x.leastSale(3), NONE);
        due("greatestBid", x.greatestBid(3), NONE);
        due("coins", x.coins(1), 100);
        dueFree("the card", x, 0, 0);
    }

    private static void liftKinds() {
        for (int kind : NO_KINDS) {
            refused("lift", INDEX, Worlds::empty, x -> x.lift(kind));
            refused("lift", INDEX, Worlds::busy, x -> x.lift(kind));
        }
        Trumpvault x = new Trumpvault();
        x.ban(0, 0);
        x.ban(7, 0);
        due("lift of the first", x.lift(0), true);
        due("lift of the last", x.lift(7), true);
    }

    private static void isBanned() {
        Trumpvault x = new Trumpvault();
        due("never banned", x.isBanned(0), false);
        x.ban(0, 0);
        due("from today on", x.isBanned(0), true);
        x.ban(0, 1);
        due("from tomorrow on", x.isBanned(0), false);
        x.pass(1);
        due("from today on, told yesterday", x.isBanned(0), true);
        x.pass(100);
        due("from long ago on", x.isBanned(0), true);
        x.ban(0, 151);
        due("from the last day on", x.isBanned(0), false);
        x.pass(49);
        due("from tomorrow on", x.isBanned(0), false);
        x.pass(1);
        due("from today on", x.isBanned(0), true);
        x.lift(0);
        due("lifted", x.isBanned(0), false);
    }

    private static void isBannedEach() {
        Trumpvault x = new Trumpvault();
        for (int kind = 0; kind < 8; kind++) {
            x.ban(kind, kind);
        }
        for (int day = 0; day < 8; day++) {
            for (int kind = 0; kind < 8; kind++) {
                due("isBanned(" + kind + ") on the day " + day, x.isBanned(kind), kind <= day);
            }
            x.pass(1);
        }
    }

    private static void isBannedKinds() {
        for (int kind : NO_KINDS) {
            refused("isBanned", INDEX, Worlds::empty, x -> x.isBanned(kind));
            refused("isBanned", INDEX, Worlds::busy, x -> x.isBanned(kind));
        }
    }

    private static void passDays() {
        due("pass of 1", new Trumpvault().pass(1), 1);
        due("pass of 2", new Trumpvault().pass(2), 2);
        due("pass of 99", new Trumpvault().pass(99), 99);
        due("pass of 100", new Trumpvault().pass(100), 100);
        refused("pass of 0", ARGUMENT, Worlds::empty, x -> x.pass(0));
        refused("pass of 101", ARGUMENT, Worlds::empty, x -> x.pass(101));
    }

    private static void passReturns() {
        Trumpvault x = new Trumpvault();
        due("1", x.pass(1), 1);
        due("100 more", x.pass(100), 101);
        refused("none", ARGUMENT, x, y -> y.pass(0));
        due("1 more", x.pass(1), 102);
        refused("too many", ARGUMENT, x, y -> y.pass(101));
        due("100 more", x.pass(100), 202);
    }

    private static void passNoDays() {
        for (int days : NO_PASS) {
            refused("pass", ARGUMENT, Worlds::empty, x -> x.pass(days));
            refused("pass", ARGUMENT, Worlds::busy, x -> x.pass(days));
            refused("pass", ARGUMENT, Worlds::full, x -> x.pass(days));
        }
    }

    private static void passToAllBans() {
        Trumpvault x = new Trumpvault();
        for (int kind = 0; kind < 8; kind++) {
            x.mint(0, kind);
            x.sell(kind, 50);
            x.bid(1, kind, 5);
            x.ban(kind, 2);
        }
        x.pass(1);
        due("coins the day before", x.coins(1), 60);
        due("the first sale the day before", x.stateOf(0), OFFERED);
        due("the last sale the day before", x.stateOf(7), OFFERED);
        x.pass(1);
        due("coins on the day", x.coins(1), 100);
        for (int kind = 0; kind < 8; kind++) {
            dueFree("on the day", x, kind, 0);
            due("leastSale", x.leastSale(kind), NONE);
            due("greatestBid", x.greatestBid(kind), NONE);
        }
    }

    private static void passToLoanAndBan() {
        Trumpvault x = Worlds.alike();
        x.lend(0, 1, 2);
        x.sell(2, 50);
        x.ban(3, 2);
        x.pass(1);
        dueCard("the loan the day before", x, 0, 0, 1, LENT);
        dueCard("the sale the day before", x, 2, 2, 2, OFFERED);
        x.pass(1);
        dueFree("the loan on the day", x, 0, 0);
        dueFree("the sale on the day", x, 2, 2);
        refused("sell on the day", STATE, x, y -> y.sell(0, 1));
    }

    private static void passChangesNothingElse() {
        Trumpvault x = Worlds.alike();
        x.sell(0, 50);
        x.bid(1, 3, 49);
        x.swap(2, 3);
        x.toggleDeck(4, 4);
        x.pass(100);
        dueCard("a sale", x, 0, 0, 0, OFFERED);
        due("leastSale", x.leastSale(3), 50);
        due("greatestBid", x.greatestBid(3), 49);
        due("coins", x.coins(1), 51);
        dueCard("a swap", x, 2, 2, 2, SWAPPING);
        due("a deck", x.strength(4), 4);
        due("a right deck", x.isRight(4), true);
        due("cancelSale", x.cancelSale(0), 50);
        due("agree", x.agree(2), 3);
    }
}
