/** Promises 10, 38 to 41, 46 and 56: days, rents, evictions and forecasts. */
public final class DaysTest {
    public static void main(String[] args) {
        incomeComesBeforeRent();
        evictions();
        manyDays();
        theLastDay();
        forecasts();
        forecastLimits();
        ledger();
        wrongInputs();
        Check.finish("DaysTest");
    }

    private static void incomeComesBeforeRent() {
        StallMarket x = Check.market("market;stall a 5;stall b 5;stall c 0;seller s 0 5 at a;"
                + "seller t 1 3 at b;seller u 0 0 at c;seller v 0 9;");
        Check.equal("advanceDays", 1, x.advanceDays(1));
        Check.equal("day", 1, x.day());
        Check.equal("balances", "0 4 0 9", Check.balances(x));
        Check.equal("places", "0-2-", Check.places(x));
        Check.equal("rentPaid", 5, x.rentPaid());
        Check.equal("evictionCount", 1, x.evictionCount());
        Check.equal("undoCount", 1, x.undoCount());
        x.undo();
        Check.equal("undone", "0 1 0 0", Check.balances(x));
        Check.equal("undone day", 0, x.day());
        Check.equal("undone rentPaid", 0, x.rentPaid());
        Check.equal("undone evictionCount", 0, x.evictionCount());
    }

    private static void evictions() {
        StallMarket x = new StallMarket();
        Check.equal("bob has 3 + 6 for 8, then 1 + 6", 1, x.advanceDays(2));
        Check.equal("balances", "18 7 50 27", Check.balances(x));
        Check.equal("rentPaid", 18, x.rentPaid());
        Check.equal("ann leaves on day 21", 1, x.advanceDays(19));
        Check.equal("places", "----", Check.places(x));
        Check.equal("day", 21, x.day());
        Check.equal("evictionCount", 2, x.evictionCount());
        Check.equal("nobody is left", 0, x.advanceDays(99));
        Check.equal("evictionCount stays", 2, x.evictionCount());
        Check.equal("ledger", 0, x.ledgerDifference());
    }

    private static void manyDays() {
        StallMarket once = new StallMarket();
        StallMarket daily = new StallMarket();
        once.advanceDays(99);
        for (int i = 0; i < 99; i++) {
            daily.advanceDays(1);
        }
        Check.equal("99 days are 99 times a day", Check.marketOf(daily), Check.marketOf(once));
    }

    private static void theLastDay() {
        StallMarket x = new StallMarket();
        for (int i = 0; i < 100; i++) {
            x.advanceDays(99);
        }
        Check.equal("day 9900", 9900, x.day());
        x.advanceDays(98);
        Check.state("two days too many", x, () -> x.advanceDays(3));
        Check.state("one day too many", x, () -> x.advanceDays(2));
        x.advanceDays(1);
        Check.equal("day 9999", 9999, x.day());
        Check.state("no day more", x, () -> x.advanceDays(1));
        Check.argument("a wrong number comes first", x, () -> x.advanceDays(0));
        Check.argument("a large wrong number comes first", x, () -> x.advanceDays(100));
        Check.equal("undo to 9998", 7, x.undo());
        Check.equal("a day again", 0, x.advanceDays(1));
        x.setRent(0, 9);
        Check.equal("the last day can be saved", 9999, x.save());
    }

    private static void forecasts() {
        StallMarket x = new StallMarket();
        Check.equal("ann", 21, x.daysUntilEviction(0));
        Check.equal("bob", 2, x.daysUntilEviction(1));
        Check.equal("cid occupies none", -1, x.daysUntilEviction(2));
        Check.equal("today", 3, x.balanceAfter(1, 0));
        Check.equal("bob in a day", 1, x.balanceAfter(1, 1));
        Check.equal("bob evicted", 7, x.balanceAfter(1, 2));
        Check.equal("bob pays no more", 13, x.balanceAfter(1, 3));
        Check.equal("dot saves", 9 + 400 * 9, x.balanceAfter(3, 400));
        x.setRent(0, 4);
        Check.equal("rent as high as income", -1, x.daysUntilEviction(0));
        Check.equal("the balance stays", 20, x.balanceAfter(0, 400));
        x.setRent(0, 99);
        Check.equal("at once", 1, x.daysUntilEviction(0));
        Check.equal("a free stall that costs nothing", -1,
                Check.market("market;stall a 0;seller s 0 0 at a;").daysUntilEviction(0));
        StallMarket y = new StallMarket();
        for (int days = 1; days <= 30; days++) {
            StallMarket z = new StallMarket();
            z.advanceDays(days);
            for (int seller = 0; seller < 4; seller++) {
                Check.equal("after " + days + " days " + seller, z.balance(seller),
                        y.balanceAfter(seller, days));
            }
        }
        Check.equal("nothing changes", Check.stateOf(new StallMarket()), Check.stateOf(y));
    }

    private static void forecastLimits() {
        StallMarket x = Check.market("market;stall a 1;stall b 1;seller s 399 0 at a;"
                + "seller t 400 0 at b;");
        Check.equal("on the 400th day", 400, x.daysUntilEviction(0));
        Check.equal("on the 401st day", -1, x.daysUntilEviction(1));
        Check.equal("the last coin", 0, x.balanceAfter(0, 399));
        Check.equal("no coin less", 0, x.balanceAfter(0, 400));
        Check.equal("the other's last coin", 0, x.balanceAfter(1, 400));
        x.deposit(1, 1);
        Check.equal("one coin left", 1, x.balanceAfter(1, 400));
        // Forecasts look at days alone and not at the last day that advanceDays reaches.
        StallMarket late = new StallMarket();
        for (int i = 0; i < 101; i++) {
            late.advanceDays(99);
        }
        late.assign(0, 0);
        Check.equal("beyond the last day", late.balance(0) - 400, late.balanceAfter(0, 400));
        late.assign(2, 2);
        late.setRent(2, 20);
        Check.equal("an eviction beyond it", 3, late.daysUntilEviction(2));
    }

    private static void ledger() {
        StallMarket x = new StallMarket();
        x.advanceDays(7);
        x.deposit(0, 999);
        Check.equal("after days and a deposit", 0, x.ledgerDifference());
        x.save();
        x.undo();
        Check.equal("after undo", 0, x.ledgerDifference());
        Check.load(x, "market;stall a 5;seller s 6 1 a at a;");
        Check.equal("after a setup", 0, x.ledgerDifference());
        x.advanceDays(9);
        Check.equal("after days", 0, x.ledgerDifference());
        x.restore();
        Check.equal("after restore", 0, x.ledgerDifference());
        x.advanceDays(9);
        Check.equal("after days again", 0, x.ledgerDifference());
        Check.equal("the saved deposit counts", true, x.balance(0) > 900);
    }

    private static void wrongInputs() {
        StallMarket x = new StallMarket();
        for (int bad : new int[] {0, -1, 100, Integer.MAX_VALUE, Integer.MIN_VALUE}) {
            Check.argument("advanceDays " + bad, x, () -> x.advanceDays(bad));
        }
        for (int bad : new int[] {-1, 401, Integer.MAX_VALUE, Integer.MIN_VALUE}) {
            Check.argument("balanceAfter days " + bad, x, () -> x.balanceAfter(0, bad));
            Check.index("the seller comes first " + bad, x, () -> x.balanceAfter(4, bad));
            Check.index("the seller comes first " + bad, x, () -> x.balanceAfter(-1, bad));
        }
        for (int bad : new int[] {-1, 4, Integer.MAX_VALUE, Integer.MIN_VALUE}) {
            Check.index("daysUntilEviction " + bad, x, () -> x.daysUntilEviction(bad));
            Check.index("balanceAfter " + bad, x, () -> x.balanceAfter(bad, 1));
        }
    }
}
