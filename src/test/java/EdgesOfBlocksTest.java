/** Boundary cases of blocks: the document's Terms, and promises 7, 8, 9 and 11. Each test quotes its sentence. */
final class EdgesOfBlocksTest {
    private static final int[] NO_BLOCKS = {-1, 8, -8, 256, 1 << 28, Integer.MIN_VALUE, Integer.MAX_VALUE};
    private static final int[] NO_OCTETS = {-1, 16, -16, 256, 1 << 28, Integer.MIN_VALUE, Integer.MAX_VALUE};

    public static void main(String[] args) {
        octetsAreZeroAtFirst();
        blocksAreZeroToSeven();
        octetsAreZeroToFifteen();
        everyOctetOfItsOwn();
        everyValueOfAnOctet();
        writtenToWithWhatItWas();
        notChangedSinceItWasSaved();
        notChangedSinceItWasLoaded();
        writingModes();
        fiveTicksToSave();
        equalVersionsKeepTheFirst();
        manyVersions();
        cutInEachTickOfASaving();
        cutCountsFromNoneToAll();
        keptThrowsForNoBlock();
        keptThrowsForNoOctet();
        Due.end();
    }

    /** Terms: "of 16 octets each, at first 0"; "VERSIONS, at first 0 (of octets 0)". */
    private static void octetsAreZeroAtFirst() {
        StartSleep x = new StartSleep();
        for (int place = 0; place < 128; place++) {
            Due.is("kept of place " + place, Due.kept(x, place / 16, place % 16), 0);
        }
        x.start();
        x.write(0, 0, (byte) 0);
        x.write(7, 15, (byte) 0);
        Due.is("step(110), the working rows being saved", x.step(110), Modes.ASLEEP);
        for (int place = 0; place < 128; place++) {
            Due.is("kept of place " + place + ", saved", Due.kept(x, place / 16, place % 16), 0);
        }
    }

    /** Terms: "BLOCKS are numbered 0 .. 7"; promises 7 and 8: "-1 there is none", "-1 there is no block". */
    private static void blocksAreZeroToSeven() {
        for (int mode = 0; mode <= 5; mode++) {
            int m = mode;
            for (int n : NO_BLOCKS) {
                Due.changesNothing("block(" + n + ") in mode " + m, x -> Modes.enter(x, m), x -> x.block(n), -1);
                Due.changesNothing("write(" + n + ", 0, 1) in mode " + m, x -> Modes.enter(x, m),
                        x -> x.write(n, 0, (byte) 1), -1);
            }
            Due.changesNothing("block(0) in mode " + m, x -> Modes.enter(x, m), x -> x.block(0), 0);
            Due.changesNothing("block(7) in mode " + m, x -> Modes.enter(x, m), x -> x.block(7), 0);
        }
        StartSleep x = Modes.in(Modes.RUNNING);
        Due.is("write(0, 0, 1)", x.write(0, 0, (byte) 1), 1);
        Due.is("write(7, 0, 1)", x.write(7, 0, (byte) 1), 1);
        Due.is("block(0)", x.block(0), 1);
        Due.is("block(7)", x.block(7), 1);
    }

    /** Terms: "of 16 octets each"; promise 8: "-2 no such octet". */
    private static void octetsAreZeroToFifteen() {
        for (int mode = 0; mode <= 5; mode++) {
            int m = mode;
            for (int i : NO_OCTETS) {
                Due.changesNothing("write(0, " + i + ", 1) in mode " + m, x -> Modes.enter(x, m),
                        x -> x.write(0, i, (byte) 1), -2);
                Due.changesNothing("write(7, " + i + ", 1) in mode " + m, x -> Modes.enter(x, m),
                        x -> x.write(7, i, (byte) 1), -2);
            }
        }
        StartSleep x = Modes.in(Modes.RUNNING);
        Due.is("write(0, 0, 1)", x.write(0, 0, (byte) 1), 1);
        Due.is("write(0, 15, 1)", x.write(0, 15, (byte) 1), 1);
    }

    /** Promise 8: "Octet i of a block's working row": that one, and none beside it, in the next row neither. */
    private static void everyOctetOfItsOwn() {
        for (int written = 0; written < 128; written++) {
            StartSleep x = Modes.in(Modes.RUNNING);
            Due.is("write of place " + written, x.write(written / 16, written % 16, (byte) 77), 1);
            for (int n = 0; n < 8; n++) {
                Due.is("block(" + n + ") behind place " + written, x.block(n), n == written / 16 ? 1 : 0);
            }
            x.step(105);
            for (int place = 0; place < 128; place++) {
                Due.is("kept of place " + place + " behind place " + written, Due.kept(x, place / 16, place % 16),
                        place == written ? 77 : 0);
            }
        }
    }

    /** Promises 8 and 11: "byte b", from the least to the greatest, with those that an int would wrap. */
    private static void everyValueOfAnOctet() {
        for (int from = -128; from < 128; from += 128) {
            StartSleep x = Modes.in(Modes.RUNNING);
            for (int place = 0; place < 128; place++) {
                x.write(place / 16, place % 16, (byte) (from + place));
            }
            Due.is("step(140)", x.step(140), Modes.ASLEEP);
            for (int place = 0; place < 128; place++) {
                Due.is("kept of place " + place, Due.kept(x, place / 16, place % 16), from + place);
            }
        }
    }

    /** Terms: "CHANGED when its working row was written to": also with the octet that it had. */
    private static void writtenToWithWhatItWas() {
        StartSleep x = Modes.in(Modes.RUNNING);
        x.write(4, 4, (byte) 0);
        Due.is("block(4) with a 0 for a 0", x.block(4), 1);
        Due.is("step(100), as it is to be saved", x.step(100), Modes.SAVING);
        x.step(105);
        x.wake(1, true);
        Due.is("block(4) when saved", x.block(4), 0);
        x.write(4, 4, (byte) 0);
        Due.is("block(4) with a 0 for a 0 again", x.block(4), 1);
    }

    /** Terms: "since it was SAVED .. last": by the end of a saving, not by its beginning. */
    private static void notChangedSinceItWasSaved() {
        StartSleep x = Modes.in(Modes.RUNNING);
        x.write(5, 0, (byte) 1);
        x.write(5, 15, (byte) 2);
        x.step(104);
        Due.is("block(5) in its saving's last tick", x.block(5), 1);
        x.step(105);
        Due.is("block(5) at its saving's end", x.block(5), 0);
        x.wake(1, true);
        Due.is("step(205), with nothing to save again", x.step(205), Modes.ASLEEP);
    }

    /** Terms: "(or loaded) last": by a STARTING, also by one that ends in EMERGENCY. */
    private static void notChangedSinceItWasLoaded() {
        for (int fails = 0; fails <= 1; fails++) {
            StartSleep x = Modes.in(Modes.RUNNING);
            for (int n = 0; n < 8; n++) {
                x.write(n, n, (byte) 9);
            }
            Due.is("cut(1)", x.cut(1), 8);
            x.init(1, 1, fails == 1);
            x.start();
            for (int n = 0; n < 8; n++) {
                Due.is("block(" + n + ") when loaded", x.block(n), 0);
            }
            Due.is("cut(2), with nothing written since", x.cut(2), 0);
        }
    }

    /** Promise 8: "-3 it is not RUNNING or EMERGENCY." */
    private static void writingModes() {
        for (int mode = 0; mode <= 5; mode++) {
            int m = mode;
            if (m == Modes.RUNNING || m == Modes.EMERGENCY) {
                StartSleep x = Modes.in(m);
                Due.is("write(0, 0, 1) in mode " + m, x.write(0, 0, (byte) 1), 1);
                Due.is("block(0) in mode " + m, x.block(0), 1);
            } else {
                Due.changesNothing("write(0, 0, 1) in mode " + m, x -> Modes.enter(x, m),
                        x -> x.write(0, 0, (byte) 1), -3);
                Due.changesNothing("write(7, 15, 1) in mode " + m, x -> Modes.enter(x, m),
                        x -> x.write(7, 15, (byte) 1), -3);
            }
        }
    }

    /** Terms: "To SAVE a block takes 5 ticks". */
    private static void fiveTicksToSave() {
        for (int n = 0; n < 8; n++) {
            StartSleep x = Modes.in(Modes.RUNNING);
            x.write(n, 0, (byte) 5);
            x.step(100);
            for (int t = 100; t < 105; t++) {
                Due.is("step(" + t + ") in the saving of " + n, x.step(t), Modes.SAVING);
                Due.is("kept(" + n + ", 0) at " + t, Due.kept(x, n, 0), 0);
            }
            Due.is("step(105), at the end of the saving of " + n, x.step(105), Modes.ASLEEP);
            Due.is("kept(" + n + ", 0) at 105", Due.kept(x, n, 0), 5);
        }
    }

    /** Terms: "of equal ones the first COPY's": both are 0 when the very first saving is cut, as often as that is. */
    private static void equalVersionsKeepTheFirst() {
        StartSleep x = new StartSleep();
        for (int round = 1; round <= 5; round++) {
            x.start();
            x.write(6, 6, (byte) round);
            x.cut(x.time(0) + 104);
            Due.is("kept(6, 6) behind cut " + round, Due.kept(x, 6, 6), 0);
        }
        x.start();
        x.write(6, 7, (byte) 1);
        Due.is("step() to the first saving's end", x.step(x.time(0) + 105), Modes.ASLEEP);
        Due.is("kept(6, 6)", Due.kept(x, 6, 6), 0);
        Due.is("kept(6, 7)", Due.kept(x, 6, 7), 1);
    }

    /** Terms: "a VERSION one more than the greater one", as often as 512 calls can have it saved. */
    private static void manyVersions() {
        StartSleep x = Modes.in(Modes.RUNNING);
        for (int round = 1; round <= 95; round++) {
            x.write(0, 0, (byte) round);
            Due.is("step() to the end of saving " + round, x.step(x.time(0) + 105), Modes.ASLEEP);
            Due.is("kept(0, 0) behind saving " + round, Due.kept(x, 0, 0), round);
            x.wake(1, true);
        }
    }

    /** Promise 9: "what is being SAVED is torn": in each tick of a saving, but not at its end; in each copy's turn. */
    private static void cutInEachTickOfASaving() {
        for (int before = 0; before <= 3; before++) {
            for (int ticks = 0; ticks <= 5; ticks++) {
                StartSleep x = Modes.in(Modes.RUNNING);
                for (int round = 1; round <= before; round++) {
                    x.write(2, 2, (byte) round);
                    x.step(x.time(0) + 105);
                    x.wake(1, true);
                }
                x.write(2, 2, (byte) 99);
                String told = " " + ticks + " ticks into a saving behind " + before;
                Due.is("cut()" + told, x.cut(x.time(0) + 100 + ticks), ticks < 5 ? 1 : 0);
                Due.is("kept(2, 2)" + told, Due.kept(x, 2, 2), ticks < 5 ? before : 99);
                x.start();
                x.write(2, 3, (byte) 1);
                x.step(x.time(0) + 105);
                Due.is("kept(2, 2) of the row loaded" + told, Due.kept(x, 2, 2), ticks < 5 ? before : 99);
                Due.is("kept(2, 3) saved behind it" + told, Due.kept(x, 2, 3), 1);
            }
        }
    }

    /** Promise 9: "how many blocks were CHANGED", from none to all. */
    private static void cutCountsFromNoneToAll() {
        for (int many = 0; many <= 8; many++) {
            StartSleep x = Modes.in(Modes.RUNNING);
            for (int n = 8 - many; n < 8; n++) {
                x.write(n, 0, (byte) 1);
                x.write(n, 15, (byte) 1);
            }
            Due.is("cut(50) with " + many + " written", x.cut(50), many);
            StartSleep y = Modes.in(Modes.EMERGENCY);
            for (int n = 0; n < many; n++) {
                y.write(n, 0, (byte) 1);
            }
            Due.is("cut(100000) in emergency with " + many + " written", y.cut(100000), many);
        }
    }

    /** Promise 11: "ArrayIndexOutOfBoundsException when there is no such block": whatever the octet is. */
    private static void keptThrowsForNoBlock() {
        int[] octets = {0, 15, 16, -1, -16, 128, -128};
        for (int n : NO_BLOCKS) {
            for (int i : octets) {
                Due.changesNothing("kept(" + n + ", " + i + ")", x -> Modes.enter(x, Modes.SAVING),
                        x -> Due.kept(x, n, i), Due.THROWN);
            }
        }
        Due.is("kept(0, 0)", Due.kept(new StartSleep(), 0, 0), 0);
        Due.is("kept(7, 0)", Due.kept(new StartSleep(), 7, 0), 0);
    }

    /** Promise 11: "or octet": also where a row beside the block's own would have it. */
    private static void keptThrowsForNoOctet() {
        for (int n = 0; n < 8; n++) {
            int block = n;
            for (int i : NO_OCTETS) {
                Due.changesNothing("kept(" + block + ", " + i + ")", x -> Modes.enter(x, Modes.SAVING),
                        x -> Due.kept(x, block, i), Due.THROWN);
            }
            Due.is("kept(" + n + ", 0)", Due.kept(new StartSleep(), n, 0), 0);
            Due.is("kept(" + n + ", 15)", Due.kept(new StartSleep(), n, 15), 0);
        }
    }
}
