/** What an object answers about its models and its rows, as one text; it takes some sixty calls. */
final class Picture {
    private Picture() {
    }

    static String of(ChecksumLab lab) {
        int models = lab.models();
        StringBuilder text = new StringBuilder("models ").append(models);
        for (int model = 0; model < models; model++) {
            text.append(", check ").append(lab.check(model)).append(", power ").append(lab.power(model, 100));
        }
        for (int row = 0; row < 4; row++) {
            text.append("; row ").append(row).append(": length ").append(lab.length(row));
            text.append(", fletcher ").append(lab.fletcher(row)).append(", adler ").append(lab.adler(row));
            for (int model = 0; model < models; model++) {
                text.append(", sum ").append(lab.sum(model, row));
            }
        }
        return text.toString();
    }

    static String ofRow(ChecksumLab lab, int row) {
        StringBuilder text = new StringBuilder();
        int length = lab.length(row);
        for (int index = 0; index < length; index++) {
            text.append(lab.byteAt(row, index)).append(' ');
        }
        return text.toString();
    }

    static String ofBytes(int... bytes) {
        StringBuilder text = new StringBuilder();
        for (int value : bytes) {
            text.append(value).append(' ');
        }
        return text.toString();
    }

    /** The bytes that a series has by the document, counted with longs. */
    static int[] series(int first, int step, int count) {
        int[] bytes = new int[count];
        for (int index = 0; index < count; index++) {
            bytes[index] = (int) ((first + (long) step * index) % 256);
        }
        return bytes;
    }
}
