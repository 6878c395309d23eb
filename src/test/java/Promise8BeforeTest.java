/** Promise 8: the last instruction that begins below an address. */
public final class Promise8BeforeTest {
    public static void main(String[] args) {
        InstructionReader x = new InstructionReader();
        x.poke(0, 3);
        x.poke(6, 7);
        int[] due = {-1, 0, 0, 0, 0, 4, 4, 6, 6, 6, 6, 10, 10, 12};
        for (int address = 0; address < due.length; address++) {
            Check.same("before(0, " + address + ")", x.before(0, address), due[address]);
        }
        Check.same("before(1, 9)", x.before(1, 9), 7);
        Check.same("before(0, 255)", x.before(0, 255), 254);
        Check.same("before(1, 255)", x.before(1, 255), 253);
        Check.same("before(254, 255)", x.before(254, 255), 254);
        Check.same("before(255, 255)", x.before(255, 255), -1);
        Check.same("before(255, 0)", x.before(255, 0), -1);
        Check.same("before(9, 9)", x.before(9, 9), -1);
        Check.same("before(9, 8)", x.before(9, 8), -1);
        Check.same("before(9, 10)", x.before(9, 10), 9);
        x.poke(254, 3);
        Check.same("before(0, 255) of one that is cut off", x.before(0, 255), 254);
        x.poke(251, 3);
        Check.same("before(251, 255)", x.before(251, 255), 251);
        int[] wrong = {-1, 256, Integer.MIN_VALUE, Integer.MAX_VALUE};
        for (int address : wrong) {
            Check.failsOutside("before(" + address + ", 5)", () -> x.before(address, 5));
            Check.failsOutside("before(5, " + address + ")", () -> x.before(5, address));
            Check.failsOutside("before(255, " + address + ")", () -> x.before(255, address));
        }
        Check.finish();
    }
}
