import java.nio.ByteBuffer;
import java.nio.charset.StandardCharsets;
import java.util.Arrays;

/** A small hill town, told by calls of LevelCellars; README.md shows this file and what it prints. */
public final class HillTown {
    public static void main(String[] args) {
        LevelCellars x = new LevelCellars();

        // Cellars (KIND, FLOOR, LIP), their wine and pipes (ONE, OTHER, WIDE).
        int upper = x.cellar(0, 20, 30);
        int lower = x.cellar(1, 10, 20);
        int leaky = x.cellar(2, 0, 5);
        int pipe = x.pipe(upper, lower, 3);
        x.pipe(lower, leaky, 2);
        x.set(upper, 8, 200);
        x.set(upper, 9, 50);
        print("level of the upper cellar", x.told(upper, 5));
        print("runs through the first pipe", x.pipeOf(pipe, 4));

        // What is only thought changes nothing.
        print("spilt, ten hours from now", x.behind(10, 1));
        print("the pipe whose cork keeps most in the upper cellar", x.corks(upper, 10, 0));
        print("spilt now", x.town(1));

        // An image is kept; hours pass; all is as it was.
        x.keep();
        print("spilt in ten hours", x.hours(10));
        print("the hour", x.count(2));
        x.back();
        print("the hour, back at the image", x.count(2));

        // A text says how high wine stands; a wrong one tells the place of its fault.
        print("the text", write(x, "high f / (4 + l / 10)"));
        print("level of the upper cellar by it", x.told(upper, 5));
        print("a text whose fault is at place 8", write(x, "fee s + * h"));

        // A sheet of levels, read against the cellars; a refusal is one of the constants.
        x.sheet(0, 0, 3);
        x.mark(0, 0, 55);
        print("the first place that is not its cellar's level", x.reads(0));
        print("a mark in a missing sheet is NOTHING", x.mark(1, 0, 7) == LevelCellars.NOTHING ? 1 : 0);
    }

    /** Brings a text to the tape, twelve bytes by twelve, trims what stands behind it, and has it read. */
    private static int write(LevelCellars x, String text) {
        byte[] bytes = text.getBytes(StandardCharsets.ISO_8859_1);
        ByteBuffer row = ByteBuffer.wrap(Arrays.copyOf(bytes, (bytes.length + 11) / 12 * 12));
        while (row.hasRemaining()) {
            x.feed(row.getInt(), row.getInt(), row.getInt());
        }
        x.trim(bytes.length);
        return x.text();
    }

    private static void print(String what, int answer) {
        System.out.println(what + ": " + answer);
    }
}
