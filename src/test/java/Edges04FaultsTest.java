import java.util.List;
import java.util.function.Consumer;

/** Promise 4, its boundary cases. */
final class Edges04FaultsTest {
    public static void main(String[] args) {
        Check.sentence("How many calls of these two were faults: none", Edges04FaultsTest::goodCallsAreNone);
        Check.sentence("How many calls of these two were faults: each counts one",
            Edges04FaultsTest::eachCountsOne);
        Check.sentence("How many calls of these two were faults: refused calls of others are none",
            Edges04FaultsTest::refusedCallsOfOthersAreNone);
        Check.sentence("How many calls of these two were faults: no call takes them back",
            Edges04FaultsTest::noCallTakesThemBack);
        Check.sentence("It may be called any number of times", Edges04FaultsTest::askedAgainAndAgain);
        Check.end();
    }

    private static void goodCallsAreNone() {
        RingDriver driver = new RingDriver();
        Check.due("faults", driver.faults(), 0);
        States.full(driver);
        int[] readable = {0, 63, 64, 127, 128, 255};
        for (int address : readable) {
            driver.deviceRead(address);
        }
        int[] writable = {0, 63, 64, 127, 256, 383};
        for (int address : writable) {
            driver.deviceWrite(address, -1);
        }
        Check.due("faults", driver.faults(), 0);
    }

    private static void eachCountsOne() {
        RingDriver driver = new RingDriver();
        int[] places = {-1, 384, 128, 255, 256, 383, Integer.MIN_VALUE, Integer.MAX_VALUE};
        int faults = 0;
        for (int address : places) {
            driver.deviceRead(address);
            faults++;
            Check.due("faults after deviceRead(" + address + ")", driver.faults(), faults);
            driver.deviceWrite(address, 0);
            faults++;
            Check.due("faults after deviceWrite(" + address + ")", driver.faults(), faults);
            driver.deviceWrite(address, -1);
            faults++;
            Check.due("faults after the same again", driver.faults(), faults);
        }
    }

    private static void refusedCallsOfOthersAreNone() {
        List<Consumer<RingDriver>> calls = List.of(
            driver -> driver.load(-1, 0), driver -> driver.load(16, 0),
            driver -> driver.taken(-1), driver -> driver.taken(16),
            driver -> driver.send(0), driver -> driver.send(17), driver -> driver.send(16),
            RingDriver::post, RingDriver::receive, RingDriver::reclaim,
            driver -> Card.deliver(driver, 0, 17), RingDriver::receive,
            RingDriver::withdraw, RingDriver::revoke,
            RingDriver::receive, RingDriver::reclaim, RingDriver::withdraw, RingDriver::revoke);
        RingDriver driver = new RingDriver();
        States.full(driver);
        for (int i = 0; i < calls.size(); i++) {
            calls.get(i).accept(driver);
            Check.due("faults after call " + i, driver.faults(), 0);
        }
    }

    private static void noCallTakesThemBack() {
        RingDriver driver = new RingDriver();
        driver.deviceRead(-1);
        driver.deviceWrite(384, 1);
        States.roundTheEnd(driver);
        Check.due("faults", driver.faults(), 2);
        driver.withdraw();
        driver.revoke();
        Check.due("faults", driver.faults(), 2);
    }

    private static void askedAgainAndAgain() {
        RingDriver driver = new RingDriver();
        driver.deviceRead(128);
        for (int n = 0; n < 500; n++) {
            Check.due("faults, asked " + n, driver.faults(), 1);
        }
    }
}
