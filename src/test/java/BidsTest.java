import java.util.function.Supplier;

/** Promises 12 and 13: bids and sheets that are sold. */
public final class BidsTest {
    private static final int LEAST = Integer.MIN_VALUE;
    private static final int MOST = Integer.MAX_VALUE;
    private static final Checks CHECKS = new Checks();

    public static void main(String[] args) {
        bid();
        bidsRefused();
        sellByPrice();
        sellAlike();
        sellUntilNoneIsLeft();
        sellThirty();
        sellsRefused();
        CHECKS.finish("BidsTest");
    }

    private static void bid() {
        KeyblockHouse house = Made.works(2);
        for (int i = 1; i <= 30; i++) {
            CHECKS.due("12: bids", house.bid(i % 10, 1, i == 1 ? 1 : 500), i);
        }
        CHECKS.due("12: told", house.about(1, 3), 30);
        CHECKS.due("12: bids of the other work", house.about(0, 3), 0);
        CHECKS.due("12: bids of the other work", house.bid(9, 0, 500), 1);
        CHECKS.due("12: the same person again", house.bid(9, 0, 500), 2);
        CHECKS.due("12: the house gets nothing yet", house.purse(), 500);
    }

    private static KeyblockHouse thirtyBids() {
        KeyblockHouse house = Made.printed(2, "sumi");
        for (int i = 0; i < 30; i++) {
            house.bid(i % 10, 0, 10);
        }
        return house;
    }

    private static void bidsRefused() {
        Supplier<KeyblockHouse> few = () -> Made.printed(2, "sumi");
        for (int none : new int[] {-1, 10, LEAST, MOST}) {
            CHECKS.outside("12: person " + none, few, h -> h.bid(none, 0, 1));
            CHECKS.outside("12: work " + none, few, h -> h.bid(0, none, 1));
            CHECKS.outside("12: person ahead of price", few, h -> h.bid(none, 0, 0));
            CHECKS.outside("12: person ahead of thirty", BidsTest::thirtyBids, h -> h.bid(none, 0, 1));
            CHECKS.outside("12: work ahead of price", few, h -> h.bid(0, none, 501));
        }
        CHECKS.outside("12: work 1", few, h -> h.bid(0, 1, 1));
        for (int price : new int[] {0, -1, 501, LEAST, MOST}) {
            CHECKS.badArgument("12: price " + price, few, h -> h.bid(0, 0, price));
            CHECKS.badArgument("12: price ahead of thirty", BidsTest::thirtyBids, h -> h.bid(0, 0, price));
        }
        CHECKS.badState("12: thirty", BidsTest::thirtyBids, h -> h.bid(0, 0, 500));
        KeyblockHouse house = thirtyBids();
        house.sell(0, 1);
        CHECKS.due("12: room again", house.bid(0, 0, 1), 30);
    }

    private static void sellByPrice() {
        KeyblockHouse house = Made.printed(4, "sumi");
        int[] prices = {1, 500, 7, 499};
        for (int i = 0; i < 4; i++) {
            house.bid(i + 2, 0, prices[i]);
        }
        int purse = house.purse();
        CHECKS.due("13: less are sold than told", house.sell(0, 3), 1006);
        CHECKS.due("13: the house gets it", house.purse(), purse + 1006);
        int[] owners = {3, 5, 4, KeyblockHouse.NONE};
        for (int i = 0; i < 4; i++) {
            CHECKS.due("13: owner of " + i, house.owner(0, i), owners[i]);
        }
        CHECKS.due("13: one bid is left", house.about(0, 3), 1);
        CHECKS.due("13: the last", house.sell(0, 30), 1);
        CHECKS.due("13: its owner", house.owner(0, 3), 2);
    }

    private static void sellAlike() {
        KeyblockHouse house = Made.printed(6, "sumi");
        int[] prices = {5, 9, 9, 5, 9};
        for (int i = 0; i < 5; i++) {
            house.bid(i, 0, prices[i]);
        }
        CHECKS.due("13: one", house.sell(0, 1), 9);
        house.bid(7, 0, 9);
        CHECKS.due("13: the others", house.sell(0, 30), 37);
        int[] owners = {1, 2, 4, 7, 0, 3};
        for (int i = 0; i < 6; i++) {
            CHECKS.due("13: owner of alike " + i, house.owner(0, i), owners[i]);
        }
    }

    private static void sellUntilNoneIsLeft() {
        KeyblockHouse house = Made.printed(2, "sumi");
        CHECKS.due("13: no bids", house.sell(0, 30), 0);
        for (int person = 0; person < 3; person++) {
            house.bid(person, 0, 10);
        }
        CHECKS.due("13: two sheets", house.sell(0, 30), 20);
        CHECKS.due("13: no sheets", house.sell(0, 30), 0);
        CHECKS.due("13: a bid stays", house.about(0, 3), 1);
        CHECKS.due("13: sheets stay", house.about(0, 1), 2);
        house.run(0, 1);
        CHECKS.due("13: not sold", house.owner(0, 2), KeyblockHouse.NONE);
        CHECKS.due("13: the bid that stayed", house.sell(0, 1), 10);
        CHECKS.due("13: its owner", house.owner(0, 2), 2);
        KeyblockHouse open = Made.works(1);
        open.bid(0, 0, 10);
        CHECKS.due("13: a work without sheets", open.sell(0, 1), 0);
        CHECKS.due("13: its bid stays", open.about(0, 3), 1);
    }

    private static void sellThirty() {
        KeyblockHouse house = Made.printed(31, "sumi");
        for (int i = 0; i < 30; i++) {
            house.bid(i % 10, 0, 500);
        }
        CHECKS.due("13: thirty for 500", house.sell(0, 30), 15000);
        CHECKS.due("13: the last sold", house.owner(0, 29), 9);
        CHECKS.due("13: the next", house.owner(0, 30), KeyblockHouse.NONE);
    }

    private static void sellsRefused() {
        for (int none : new int[] {-1, 1, 6, LEAST, MOST}) {
            CHECKS.outside("13: work " + none, BidsTest::thirtyBids, h -> h.sell(none, 1));
            CHECKS.outside("13: work ahead of most", BidsTest::thirtyBids, h -> h.sell(none, 0));
        }
        for (int most : new int[] {0, -1, 31, LEAST, MOST}) {
            CHECKS.badArgument("13: most " + most, BidsTest::thirtyBids, h -> h.sell(0, most));
        }
    }
}
