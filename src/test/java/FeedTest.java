/** Promise 8: feed, and what decode leaves of the bytes that were fed. */
public final class FeedTest {
  private static final Check check = new Check();

  public static void main(String[] args) {
    theHighestByteFirst();
    onlyTheLowestBytes();
    refusedCounts();
    sixteenAtMost();
    aRefusedFeedChangesNothing();
    decodeTakesAllBytes();
    encodeLeavesTheFedBytes();
    check.end();
  }

  private static void theHighestByteFirst() {
    InstructionCoder x = new InstructionCoder();
    check.due("feed(0x48B8010203040506, 8)", x.feed(0x48B8010203040506L, 8), true);
    check.due("feed(0x0708, 2)", x.feed(0x0708, 2), true);
    check.due("decode", Check.decoded(x), "10: 8 8 0 r0 n" + 0x0807060504030201L);
    check.due("feed of a negative word", x.feed(0x8B_84_24_80_FF_FF_FF_90L, 8), true);
    check.due("decode", Check.decoded(x), "7: 8 4 0 r0 m(4,-1,1,-128)");
  }

  private static void onlyTheLowestBytes() {
    InstructionCoder x = new InstructionCoder();
    for (int n = 1; n <= 8; n++) {
      check.due("feed(.., " + n + ")", x.feed(0x9090909090909090L & (-1L >>> (64 - 8 * n)) | (n < 8 ? -1L << 8 * n : 0), n), true);
      check.due("decode", Check.decoded(x), "1: 39 0 0");
    }
    x.feed(0x1111111111C2FF80L, 3);
    check.due("decode", Check.decoded(x), "3: 33 0 0 n33023");
  }

  private static void refusedCounts() {
    for (int n : new int[] {0, -1, 9, 16, 17, Integer.MAX_VALUE, Integer.MIN_VALUE}) {
      InstructionCoder x = new InstructionCoder();
      check.due("feed(0x90, " + n + ")", x.feed(0x90, n), false);
      check.due("decode after it", Check.decoded(x), "none");
    }
  }

  private static void sixteenAtMost() {
    InstructionCoder x = new InstructionCoder();
    for (int i = 0; i < 16; i++) check.due("feed " + i, x.feed(0x90, 1), true);
    check.due("feed 16", x.feed(0x90, 1), false);
    check.due("feed 17", x.feed(0x90, 8), false);
    check.due("decode", Check.decoded(x), "1: 39 0 0");
    check.due("feed(.., 8)", x.feed(0, 8), true);
    check.due("feed(.., 7)", x.feed(0, 7), true);
    check.due("feed(.., 2)", x.feed(0, 2), false);
    check.due("feed(.., 1)", x.feed(0, 1), true);
    check.due("feed(.., 1)", x.feed(0, 1), false);
  }

  private static void aRefusedFeedChangesNothing() {
    InstructionCoder x = new InstructionCoder();
    x.feed(0x4881842480000000L, 8);
    x.feed(0x112233L, 3);
    check.due("feed of too many", x.feed(0x9999999999999999L, 6), false);
    check.due("feed of none", x.feed(0x99, 0), false);
    x.feed(0x44L, 1);
    check.due("decode", Check.decoded(x), "12: 0 8 0 m(4,-1,1,128) n1144201745");
  }

  private static void decodeTakesAllBytes() {
    InstructionCoder x = new InstructionCoder();
    x.feed(0x90C3, 2);
    check.due("decode", Check.decoded(x), "1: 39 0 0");
    check.due("decode again", Check.decoded(x), "none");
    x.feed(0x06C3, 2);
    check.due("decode of none", Check.decoded(x), "none");
    x.feed(0xC3, 1);
    check.due("decode after none", Check.decoded(x), "1: 33 0 0");
    x.feed(0x0F, 1);
    check.due("decode of too few", Check.decoded(x), "none");
    x.feed(0x05, 1);
    check.due("the byte before is gone", Check.decoded(x), "none");
  }

  private static void encodeLeavesTheFedBytes() {
    InstructionCoder x = new InstructionCoder();
    x.feed(0x0F, 1);
    check.due("encode", Check.encoded(x), "90");
    x.feed(0x0B, 1);
    check.due("decode", Check.decoded(x), "2: 41 0 0");
  }
}
