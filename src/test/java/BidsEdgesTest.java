import java.util.function.Supplier;

/** Each sentence on bids and sheets that are sold that names an edge. */
public final class BidsEdgesTest {
    private static final Checks CHECKS = new Checks();

    public static void main(String[] args) {
        people();
        bidNoSuchWork();
        price();
        howManyBids();
        thirtyBids();
        bidOrder();
        most();
        noSheets();
        noBids();
        lessSheetsThanBids();
        lessBidsThanSheets();
        soldByNumbers();
        greatestBid();
        theOneThatCameFirst();
        overByThat();
        whatIsBid();
        sellNoSuchWork();
        sellOrder();
        CHECKS.finish("BidsEdgesTest");
    }

    // ---- bids

    private static KeyblockHouse twoSheets() {
        KeyblockHouse house = Made.printed(2, "sumi", "beni");
        house.bid(5, 0, 7);
        return house;
    }

    private static KeyblockHouse bids(int count) {
        KeyblockHouse house = Made.printed(2, "sumi");
        for (int i = 0; i < count; i++) {
            house.bid(i % 10, 0, 10 + i % 3);
        }
        return house;
    }

    private static void people() {
        CHECKS.sentence("Terms, 12: there are the people 0 to 9; IndexOutOfBoundsException as told, of the person");
        for (int person = 0; person <= 9; person++) {
            KeyblockHouse house = Made.printed(1, "sumi");
            CHECKS.due("person " + person, house.bid(person, 0, 1), 1);
            house.sell(0, 1);
            CHECKS.due("owner " + person, house.owner(0, 0), person);
        }
        for (int person : Edge.beside(0, 9)) {
            CHECKS.outside("person " + person, BidsEdgesTest::twoSheets, h -> h.bid(person, 0, 1));
        }
    }

    private static void bidNoSuchWork() {
        CHECKS.sentence("12 IndexOutOfBoundsException as told, of the work");
        for (int work : Edge.besideNumbers(1)) {
            CHECKS.outside("work " + work, BidsEdgesTest::twoSheets, h -> h.bid(0, work, 1));
        }
        for (int work : Edge.besideNumbers(6)) {
            CHECKS.outside("work of six " + work, () -> Made.works(6), h -> h.bid(9, work, 500));
        }
        for (int work : Edge.besideNumbers(0)) {
            CHECKS.outside("no work, " + work, KeyblockHouse::new, h -> h.bid(0, work, 1));
        }
        CHECKS.due("the last of six", Made.works(6).bid(9, 5, 500), 1);
    }

    private static void price() {
        CHECKS.sentence("12 price: 1 to 500; IllegalArgumentException if price is out of range");
        for (int price = 1; price <= 500; price++) {
            KeyblockHouse house = Made.printed(1, "sumi");
            CHECKS.due("price " + price, house.bid(0, 0, price), 1);
            CHECKS.due("brings " + price, house.sell(0, 1), price);
        }
        for (int price : Edge.beside(1, 500)) {
            CHECKS.badArgument("price " + price, BidsEdgesTest::twoSheets, h -> h.bid(0, 0, price));
        }
    }

    private static void howManyBids() {
        CHECKS.sentence("12 Returns how many bids there are for the work");
        KeyblockHouse house = Made.works(2);
        CHECKS.due("none yet", house.about(0, 3), 0);
        CHECKS.due("of a work without blocks, seal and sheets", house.bid(0, 0, 1), 1);
        CHECKS.due("refused", Checks.answer(house, h -> h.bid(0, 0, 0)), "IllegalArgumentException");
        CHECKS.due("the same bid again", house.bid(0, 0, 1), 2);
        CHECKS.due("of the other", house.bid(0, 1, 1), 1);
        KeyblockHouse sold = bids(3);
        sold.sell(0, 2);
        CHECKS.due("less those that are over", sold.bid(0, 0, 1), 2);
    }

    private static void thirtyBids() {
        CHECKS.sentence("12 IllegalStateException if there are 30 for it");
        KeyblockHouse house = bids(29);
        CHECKS.due("the thirtieth", house.bid(0, 0, 1), 30);
        CHECKS.due("one more", Checks.answer(house, h -> h.bid(0, 0, 1)), "IllegalStateException");
        CHECKS.due("told", house.about(0, 3), 30);
        CHECKS.badState("a greater one", () -> bids(30), h -> h.bid(3, 0, 500));
        CHECKS.badState("a smaller one", () -> bids(30), h -> h.bid(9, 0, 1));
        CHECKS.badState("work without sheets", () -> {
            KeyblockHouse open = Made.works(1);
            for (int i = 0; i < 30; i++) {
                open.bid(i % 10, 0, 1 + i);
            }
            return open;
        }, h -> h.bid(0, 0, 500));
        house.work();
        CHECKS.due("another work", house.bid(0, 1, 1), 1);
        house.sell(0, 1);
        CHECKS.due("room again", house.bid(0, 0, 1), 30);
        CHECKS.due("full again", Checks.answer(house, h -> h.bid(0, 0, 1)), "IllegalStateException");
    }

    private static void bidOrder() {
        CHECKS.sentence("12 IndexOutOfBoundsException, IllegalArgumentException, IllegalStateException in this order");
        Supplier<KeyblockHouse> full = () -> bids(30);
        for (int price : new int[] {0, 501, Edge.LEAST, Edge.MOST}) {
            CHECKS.outside("no person, " + price, full, h -> h.bid(10, 0, price));
            CHECKS.outside("no work, " + price, full, h -> h.bid(0, 1, price));
            CHECKS.outside("neither, " + price, full, h -> h.bid(-1, -1, price));
            CHECKS.badArgument("thirty, " + price, full, h -> h.bid(0, 0, price));
        }
        CHECKS.outside("no person, thirty", full, h -> h.bid(-1, 0, 1));
        CHECKS.outside("no work, thirty", full, h -> h.bid(0, -1, 1));
    }

    // ---- sheets sold

    private static KeyblockHouse sheetsAndBids(int sheets, int... prices) {
        KeyblockHouse house = Made.printed(sheets, "sumi");
        for (int i = 0; i < prices.length; i++) {
            house.bid(i, 0, prices[i]);
        }
        return house;
    }

    private static void dueOwners(String what, KeyblockHouse house, int... want) {
        for (int i = 0; i < want.length; i++) {
            CHECKS.due(what + ", owner of " + i, house.owner(0, i), want[i]);
        }
    }

    private static KeyblockHouse forty() {
        KeyblockHouse house = Made.printed(40, "sumi");
        for (int i = 0; i < 30; i++) {
            house.bid(i % 10, 0, 1);
        }
        return house;
    }

    private static void most() {
        CHECKS.sentence("13 most: 1 to 30; less are sold than told; IllegalArgumentException if most is out of range");
        for (int most = 1; most <= 30; most++) {
            KeyblockHouse house = forty();
            CHECKS.due("most " + most, house.sell(0, most), most);
            CHECKS.due("bids behind " + most, house.about(0, 3), 30 - most);
            CHECKS.due("last sold of " + most, house.owner(0, most - 1), (most - 1) % 10);
            CHECKS.due("first not sold of " + most, house.owner(0, most), KeyblockHouse.NONE);
        }
        for (int most : Edge.beside(1, 30)) {
            CHECKS.badArgument("most " + most, BidsEdgesTest::twoSheets, h -> h.sell(0, most));
            CHECKS.badArgument("nothing to sell, most " + most, () -> Made.works(1), h -> h.sell(0, most));
        }
    }

    private static void noSheets() {
        CHECKS.sentence("13 as long as there are some that are not sold: no sheet");
        KeyblockHouse house = Made.works(1);
        house.bid(3, 0, 500);
        CHECKS.due("no block", house.sell(0, 30), 0);
        Made.cut(house, 0, "sumi");
        CHECKS.due("no seal", house.sell(0, 30), 0);
        house.seal(0);
        CHECKS.due("no sheet", house.sell(0, 1), 0);
        CHECKS.due("the bid stays", house.about(0, 3), 1);
        CHECKS.due("purse", house.purse(), 480);
        house.run(0, 1);
        CHECKS.due("a sheet", house.sell(0, 30), 500);
        CHECKS.due("its owner", house.owner(0, 0), 3);
    }

    private static void noBids() {
        CHECKS.sentence("13 and bids: no bid");
        KeyblockHouse house = Made.printed(3, "sumi");
        CHECKS.due("no bid", house.sell(0, 30), 0);
        CHECKS.due("not sold", house.owner(0, 0), KeyblockHouse.NONE);
        CHECKS.due("purse", house.purse(), 477);
        CHECKS.due("nothing at all", Made.works(1).sell(0, 1), 0);
        house.work();
        house.bid(1, 1, 9);
        CHECKS.due("a bid for another work", house.sell(0, 30), 0);
        CHECKS.due("stays there", house.about(1, 3), 1);
    }

    private static void lessSheetsThanBids() {
        CHECKS.sentence("13 as long as there are some that are not sold: less sheets than bids");
        KeyblockHouse house = sheetsAndBids(2, 4, 6, 5);
        CHECKS.due("two", house.sell(0, 3), 11);
        dueOwners("two", house, 1, 2);
        CHECKS.due("one bid stays", house.about(0, 3), 1);
        CHECKS.due("all are sold", house.sell(0, 30), 0);
        CHECKS.due("it stays", house.about(0, 3), 1);
        house.run(0, 1);
        CHECKS.due("the next sheet", house.sell(0, 1), 4);
        dueOwners("three", house, 1, 2, 0);
        KeyblockHouse full = Made.poor(38);
        for (int i = 0; i < 30; i++) {
            full.bid(i % 10, 0, 1);
        }
        for (int sold = 0; sold < 390; sold += 30) {
            CHECKS.due("thirty from " + sold, full.sell(0, 30), 30);
            for (int i = 0; i < 30; i++) {
                full.bid(i % 10, 0, 1);
            }
        }
        CHECKS.due("the last ten of 400", full.sell(0, 30), 10);
        CHECKS.due("the last of 400", full.owner(0, 399), 9);
        CHECKS.due("none of 400 is left", full.sell(0, 30), 0);
        CHECKS.due("bids that stay", full.about(0, 3), 20);
    }

    private static void lessBidsThanSheets() {
        CHECKS.sentence("13 and bids: less bids than sheets");
        KeyblockHouse house = sheetsAndBids(5, 4, 6);
        CHECKS.due("two", house.sell(0, 5), 10);
        dueOwners("two", house, 1, 0, KeyblockHouse.NONE, KeyblockHouse.NONE, KeyblockHouse.NONE);
        CHECKS.due("no bid is left", house.about(0, 3), 0);
        CHECKS.due("nothing more", house.sell(0, 5), 0);
        dueOwners("still", house, 1, 0, KeyblockHouse.NONE);
    }

    private static void soldByNumbers() {
        CHECKS.sentence("Terms: gives those that are not sold, by numbers");
        KeyblockHouse house = sheetsAndBids(3, 2);
        house.sell(0, 1);
        dueOwners("the first", house, 0, KeyblockHouse.NONE, KeyblockHouse.NONE);
        house.bid(7, 0, 9);
        house.run(0, 2);
        house.sell(0, 1);
        dueOwners("the next", house, 0, 7, KeyblockHouse.NONE, KeyblockHouse.NONE, KeyblockHouse.NONE);
        for (int person = 4; person < 8; person++) {
            house.bid(person, 0, 20 - person);
        }
        CHECKS.due("three of four", house.sell(0, 30), 16 + 15 + 14);
        dueOwners("all", house, 0, 7, 4, 5, 6);
    }

    private static void greatestBid() {
        CHECKS.sentence("Terms: each to the greatest bid there is");
        KeyblockHouse up = sheetsAndBids(4, 1, 2, 499, 500);
        CHECKS.due("from small to great", up.sell(0, 4), 1002);
        dueOwners("from small to great", up, 3, 2, 1, 0);
        KeyblockHouse down = sheetsAndBids(4, 500, 499, 2, 1);
        CHECKS.due("from great to small", down.sell(0, 4), 1002);
        dueOwners("from great to small", down, 0, 1, 2, 3);
        KeyblockHouse between = sheetsAndBids(2, 3, 5, 4);
        CHECKS.due("the greatest of three", between.sell(0, 1), 5);
        between.bid(9, 0, 6);
        CHECKS.due("a greater one behind", between.sell(0, 1), 6);
    }

    private static void theOneThatCameFirst() {
        CHECKS.sentence("Terms: of alike ones the one that came first");
        KeyblockHouse house = sheetsAndBids(5, 8, 8, 3, 8);
        CHECKS.due("the first", house.sell(0, 1), 8);
        house.bid(0, 0, 8);
        house.sell(0, 30);
        dueOwners("alike", house, 0, 1, 3, 0, 2);
        KeyblockHouse least = sheetsAndBids(3, 1, 1, 1);
        least.sell(0, 2);
        dueOwners("alike, for 1", least, 0, 1, KeyblockHouse.NONE);
        KeyblockHouse most = sheetsAndBids(3, 500, 500, 500);
        most.sell(0, 2);
        dueOwners("alike, for 500", most, 0, 1, KeyblockHouse.NONE);
    }

    private static void overByThat() {
        CHECKS.sentence("Terms: which is over by that");
        KeyblockHouse house = sheetsAndBids(3, 9);
        CHECKS.due("once", house.sell(0, 30), 9);
        CHECKS.due("over", house.about(0, 3), 0);
        CHECKS.due("not twice", house.sell(0, 30), 0);
        KeyblockHouse twice = Made.printed(3, "sumi");
        twice.bid(2, 0, 9);
        twice.bid(2, 0, 9);
        CHECKS.due("each bid once", twice.sell(0, 30), 18);
    }

    private static void whatIsBid() {
        CHECKS.sentence("Terms, 13: the house gets what is bid; returns what they bring");
        KeyblockHouse house = sheetsAndBids(3, 500, 1);
        CHECKS.due("a bid brings nothing yet", house.purse(), 477);
        CHECKS.due("brings", house.sell(0, 1), 500);
        CHECKS.due("purse", house.purse(), 977);
        CHECKS.due("brings", house.sell(0, 1), 1);
        CHECKS.due("purse", house.purse(), 978);
        KeyblockHouse poor = Made.poor(0);
        poor.bid(0, 0, 20);
        poor.sell(0, 1);
        CHECKS.due("just for a block", Made.cut(poor, 1, "beni"), 1);
        CHECKS.due("nothing left", poor.purse(), 0);
        KeyblockHouse thirty = Made.printed(30, "sumi");
        for (int i = 0; i < 30; i++) {
            thirty.bid(i % 10, 0, 500);
        }
        CHECKS.due("thirty for 500", thirty.sell(0, 30), 15000);
        CHECKS.due("purse", thirty.purse(), 15450);
    }

    private static void sellNoSuchWork() {
        CHECKS.sentence("13 IndexOutOfBoundsException as told");
        for (int work : Edge.besideNumbers(1)) {
            CHECKS.outside("work " + work, BidsEdgesTest::twoSheets, h -> h.sell(work, 1));
        }
        for (int work : Edge.besideNumbers(6)) {
            CHECKS.outside("work of six " + work, () -> Made.works(6), h -> h.sell(work, 30));
        }
        CHECKS.due("the last of six", Made.works(6).sell(5, 30), 0);
    }

    private static void sellOrder() {
        CHECKS.sentence("13 IndexOutOfBoundsException ahead of IllegalArgumentException");
        for (int most : new int[] {0, 31, Edge.LEAST, Edge.MOST}) {
            CHECKS.outside("work 1, " + most, BidsEdgesTest::twoSheets, h -> h.sell(1, most));
            CHECKS.outside("work -1, " + most, BidsEdgesTest::twoSheets, h -> h.sell(-1, most));
            CHECKS.outside("no work, " + most, KeyblockHouse::new, h -> h.sell(0, most));
        }
    }
}
