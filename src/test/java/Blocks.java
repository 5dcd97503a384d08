import java.util.LinkedHashMap;
import java.util.Map;

/** BLOCKS, right ones and, by name, such as are not right, and tables that have one of these. */
final class Blocks {
    /** KEYS 5 and 6 with VALUES 1 and 2. */
    static final Bytes GOOD = Bytes.numbers(10, 2, 0, 4).summed();
    /** KEY -10 with VALUE 7. */
    static final Bytes LOW = Bytes.numbers(19, 14).summed();
    /** KEY 40 with VALUE 9. */
    static final Bytes HIGH = Bytes.numbers(80, 18).summed();

    private Blocks() { }

    /** A table of three BLOCKS, from KEYS -10, 5 and 40 on: this one is in the middle. */
    static byte[] between(Bytes middle) {
        Bytes index = Bytes.numbers(3, LOW.length(), 19, middle.length(), 10, HIGH.length(), 80);
        return Bytes.table(index, LOW, middle, HIGH);
    }

    static Map<String, Bytes> ofWrongSums() {
        Map<String, Bytes> all = new LinkedHashMap<>();
        for (int i = 0; i < GOOD.length(); i++) {
            for (int bit = 0; bit < 8; bit++) {
                all.put("byte " + i + ", bit " + bit, GOOD.flipped(i, bit));
            }
        }
        byte[] right = GOOD.array();
        all.put("a sum with the highest byte first", Bytes.numbers(10, 2, 0, 4)
                .raw(right[7], right[6], right[5], right[4]));
        for (int length = 0; length < 4; length++) {
            all.put("too short for a sum: " + length, Bytes.of(new int[length]));
        }
        return all;
    }

    static Map<String, Bytes> ofNumbersBeyond() {
        Map<String, Bytes> all = new LinkedHashMap<>();
        all.put("no value", Bytes.numbers(10).summed());
        all.put("no second value", Bytes.numbers(10, 2, 0).summed());
        all.put("a first key that does not end", Bytes.of(138).summed());
        all.put("a value that does not end", Bytes.of(10, 130).summed());
        all.put("a distance that does not end", Bytes.of(10, 2, 128).summed());
        all.put("a second value that does not end", Bytes.of(10, 2, 0, 132).summed());
        // Ten bytes or fewer would be right, if the SUM's own bytes were taken for the rest.
        for (int i = 128; i < 256; i++) {
            Bytes block = Bytes.of(10, 2, 0, i).summed();
            if (block.array()[4] >= 0) {
                all.put("a value that the sum would end: " + i, block);
            }
        }
        return all;
    }

    static Map<String, Bytes> ofNumbersTooHigh() {
        Map<String, Bytes> all = new LinkedHashMap<>();
        for (int last : new int[] {2, 3, 4, 8, 16, 32, 64, 66, 127}) {
            for (int nine : new int[] {0, 127}) {
                String name = "nine bytes of " + nine + ", then " + last;
                all.put(name + " as a first key",
                        new Bytes().tenBytes(nine, last).number(2).summed());
                all.put(name + " as a value", Bytes.numbers(10).tenBytes(nine, last).summed());
                all.put(name + " as a distance",
                        Bytes.numbers(10, 2).tenBytes(nine, last).number(4).summed());
                all.put(name + " as a last value",
                        Bytes.numbers(10, 2, 0).tenBytes(nine, last).summed());
            }
        }
        return all;
    }

    static Map<String, Bytes> ofNumbersTooLong() {
        Map<String, Bytes> all = new LinkedHashMap<>();
        for (int length : new int[] {11, 12, 20}) {
            String name = " of " + length + " bytes";
            all.put("a first key" + name, new Bytes().number(10, length).number(2).summed());
            all.put("a value" + name, Bytes.numbers(10).number(2, length).summed());
            all.put("a distance" + name, Bytes.numbers(10, 2).number(0, length).number(4).summed());
            all.put("a last value" + name, Bytes.numbers(10, 2, 0).number(4, length).summed());
        }
        // Bits that a long would lose: were they let go, these would be NUMBERS.
        all.put("a value of 2^70", Bytes.of(10).tenBytes(0, 128).raw(1).summed());
        all.put("a value of ten bytes that go on", Bytes.of(10).tenBytes(0, 129).raw(0).summed());
        return all;
    }

    static Map<String, Bytes> notRight() {
        Map<String, Bytes> all = ofWrongSums();
        all.putAll(ofNumbersBeyond());
        all.putAll(ofNumbersTooHigh());
        all.putAll(ofNumbersTooLong());
        return all;
    }
}
