/** Promise 9: how many whole ones are numbers. */
public final class Promise9NumbersTest {
    public static void main(String[] args) {
        InstructionReader x = new InstructionReader();
        Check.same("numbers(0)", x.numbers(0), 128);
        Check.same("numbers(1)", x.numbers(1), 127);
        Check.same("numbers(254)", x.numbers(254), 1);
        Check.same("numbers(255)", x.numbers(255), 0);
        x.poke(0, 19);
        Check.same("numbers(0) with a line of four bytes", x.numbers(0), 126);
        x.poke(0, 7);
        Check.same("numbers(0) with a number of four bytes", x.numbers(0), 127);
        x.poke(4, 1);
        Check.same("numbers(0) with a line of two bytes", x.numbers(0), 126);
        Check.same("numbers(6)", x.numbers(6), 125);
        x.poke(254, 3);
        Check.same("numbers(250) without the one cut off", x.numbers(250), 2);
        x.poke(254, 7);
        Check.same("numbers(250) without the number cut off", x.numbers(250), 2);
        Check.same("numbers(254)", x.numbers(254), 0);
        Check.same("about(1) after numbers", x.about(1), 0);
        x.read(1);
        x.numbers(0);
        Check.same("text after numbers", Check.text(x), "c.nop");
        int[] wrong = {-1, 256, Integer.MIN_VALUE, Integer.MAX_VALUE};
        for (int address : wrong) {
            Check.failsOutside("numbers(" + address + ")", () -> x.numbers(address));
        }
        Check.finish();
    }
}
