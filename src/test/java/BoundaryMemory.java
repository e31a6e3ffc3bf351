/** The sentences of the promises 1 to 6: a new object, inject, copyBlock, fill, setMirror and scrub. */
final class BoundaryMemory extends Boundary {
    BoundaryMemory(Sentences document) {
        super(document);
    }

    @Override
    void all() {
        promise1();
        promise2();
        promise3();
        promise3Arguments();
        promise3Answers();
        promise4();
        promise4Answers();
        promise5();
        promise6();
    }

    private void promise1() {
        section("Promise 1");
        says("Creates a memory of clean words with the value 0,", x -> {
            for (int word = 0; word < 32; word++) {
                due("value(" + word + ")", x.value(word), 0);
                due("origin(" + word + ")", x.origin(word), NONE);
                due("hops(" + word + ")", x.hops(word), NONE);
            }
            due("injections", x.injections(), 0);
            PoisonedMemory y = new PoisonedMemory();
            x.fill(0, 16, 5);
            x.inject(31);
            due("another object has words of its own", y.value(0), 0);
            due("and marks of its own", y.origin(31), NONE);
        });
        says("with an empty text", x -> {
            due("fault", x.fault(), 0);
            due("run", x.run(), BAD_TEXT);
            due("append", x.append('O'), 1);
            due("clearText", new PoisonedMemory().clearText(), 0);
        });
        says("and an empty history.", x -> {
            due("undo", x.undo(), NONE);
            x.inject(0);
            due("undo of the first action", x.undo(), 0);
            due("undo", x.undo(), NONE);
        });
    }

    private void promise2() {
        section("Promise 2");
        plain("Injects a word.");
        says("`word`: 0 to 31", x -> {
            range("inject", 0, 31, NO_SUCH, x::inject);
            due("origin(0)", x.origin(0), 0);
            due("origin(1)", x.origin(1), 1);
            due("origin(2)", x.origin(2), NONE);
            due("origin(30)", x.origin(30), 2);
            due("origin(31)", x.origin(31), 3);
        });
        says("Returns the origin;", x -> {
            for (int origin = 0; origin < 20; origin++) {
                due("inject", x.inject(7), origin);
                due("origin(7)", x.origin(7), origin);
            }
            x.undo();
            due("the last one is given anew after undo", x.inject(8), 19);
        });
        says("NO_SUCH if there is no such word;", x -> {
            due("inject(-1)", x.inject(-1), NO_SUCH);
            due("inject(32)", x.inject(32), NO_SUCH);
            due("injections", x.injections(), 0);
            due("inject(0)", x.inject(0), 0);
            due("inject(31)", x.inject(31), 1);
            for (int i = 0; i < 18; i++) {
                x.inject(5);
            }
            due("inject(32), NO_SUCH comes first", x.inject(32), NO_SUCH);
            due("inject(-1), NO_SUCH comes first", x.inject(-1), NO_SUCH);
        });
        says("TOO_MANY if there were 20 injections.", x -> {
            for (int i = 0; i < 19; i++) {
                accepted("inject", x.inject(i));
            }
            due("there were 19", x.inject(31), 19);
            due("there were 20", x.inject(0), TOO_MANY);
            due("there were 20", x.inject(31), TOO_MANY);
            due("the last one stays", x.origin(31), 19);
            x.undo();
            due("there were 19, the 20th is undone", x.inject(0), 19);
            due("there were 20", x.inject(0), TOO_MANY);
            x.fill(0, 16, 0);
            due("there were 20, though hardly any word is poisoned", x.inject(0), TOO_MANY);
        });
    }

    private void promise3() {
        section("Promise 3");
        plain("Copies words with their marks:");
        says("first, all source words are fetched, one after the other in ascending order;", x -> {
            x.setMirror(0, true);
            x.setMirror(1, true);
            for (int word = 1; word <= 6; word++) {
                x.inject(word);
            }
            due("the words 2 to 5", x.copyBlock(2, 20, 4), 0);
            due("healed", x.healed(), 4);
            due("the word before", x.origin(1), 0);
            due("the first one", x.origin(2), NONE);
            due("the last one", x.origin(5), NONE);
            due("the word behind", x.origin(6), 5);
            due("the targets are not fetched", x.copyBlock(20, 6, 1), 0);
            due("healed", x.healed(), 4);
            due("source and target are the same word, which is healed", x.copyBlock(1, 1, 1), 0);
            due("healed", x.healed(), 5);
        });
        says("then, each target word gets the value that was read from its source word,", x -> {
            for (int distance = -2; distance <= 2; distance++) {
                PoisonedMemory y = new PoisonedMemory();
                for (int word = 0; word < 32; word++) {
                    y.fill(word, 1, 300 + word);
                }
                y.copyBlock(8, 8 + distance, 4);
                for (int word = 0; word < 32; word++) {
                    boolean isTarget = word >= 8 + distance && word < 12 + distance;
                    due("value(" + word + "), distance " + distance, y.value(word), 300 + word - (isTarget ? distance : 0));
                }
            }
        });
        says("and the mark that was read is copied to it.", x -> {
            for (int distance = -2; distance <= 2; distance++) {
                PoisonedMemory y = new PoisonedMemory();
                for (int word = 6; word < 14; word++) {
                    y.inject(word);
                }
                y.copyBlock(8, 8 + distance, 4);
                for (int word = 6; word < 14; word++) {
                    boolean isTarget = word >= 8 + distance && word < 12 + distance;
                    due("origin(" + word + "), distance " + distance, y.origin(word), word - 6 - (isTarget ? distance : 0));
                    due("hops(" + word + "), distance " + distance, y.hops(word), isTarget ? 1 : 0);
                }
                due("the word before", y.origin(5), NONE);
                due("the word behind", y.origin(14), NONE);
            }
            poisonWord(x, 1, 98);
            x.copyBlock(1, 2, 1);
            due("hops of 98", x.hops(2), 99);
            x.copyBlock(2, 3, 1);
            due("hops of 99", x.hops(3), 99);
            x.copyBlock(0, 3, 1);
            due("a clean source", x.hops(3), NONE);
        });
    }

    private void promise3Arguments() {
        says("`from`: 0 to 31: the first source word", x -> {
            range("from", 0, 31, NO_SUCH, from -> x.copyBlock(from, 9, 1));
            x.fill(0, 1, 100);
            x.fill(31, 1, 131);
            x.copyBlock(0, 8, 1);
            x.copyBlock(31, 9, 1);
            due("the word 0", x.value(8), 100);
            due("the word 31", x.value(9), 131);
        });
        says("`to`: 0 to 31: the first target word", x -> {
            range("to", 0, 31, NO_SUCH, to -> x.copyBlock(9, to, 1));
            x.fill(9, 1, 55);
            x.copyBlock(9, 0, 1);
            x.copyBlock(9, 31, 1);
            due("the word 0", x.value(0), 55);
            due("the word 31", x.value(31), 55);
            due("the word 30", x.value(30), 0);
        });
        says("`words`: 1 to 16", x -> {
            range("words", 1, 16, BAD_VALUE, words -> x.copyBlock(0, 16, words));
            x.fill(0, 16, 6);
            x.copyBlock(0, 16, 1);
            due("the first of 1", x.value(16), 6);
            due("behind the first", x.value(17), 0);
            x.copyBlock(0, 16, 15);
            due("the last of 15", x.value(30), 6);
            due("behind the last of 15", x.value(31), 0);
            x.copyBlock(0, 16, 16);
            due("the last of 16", x.value(31), 6);
        });
    }

    private void promise3Answers() {
        says("Returns the number of target words that are poisoned afterwards;", x -> {
            for (int i = 0; i < 16; i++) {
                due(i + " poisoned words", x.copyBlock(0, 16, 16), i);
                x.inject(i);
            }
            due("16 poisoned words", x.copyBlock(0, 16, 16), 16);
            due("one of them", x.copyBlock(15, 16, 1), 1);
            x.fill(0, 16, 0);
            due("clean sources, poisoned targets", x.copyBlock(0, 16, 15), 0);
            due("the source itself is no target: clean ones before it", x.copyBlock(31, 0, 1), 1);
            due("targets that are sources too", x.copyBlock(0, 1, 2), 1);
            x.setMirror(2, true);
            x.inject(8);
            due("a healed source", x.copyBlock(8, 4, 1), 0);
        });
        says("NO_SUCH if there is no word from or to;", x -> {
            range("from", 0, 31, NO_SUCH, from -> x.copyBlock(from, 0, 1));
            range("to", 0, 31, NO_SUCH, to -> x.copyBlock(0, to, 1));
            due("from -1, the last source word would be 0", x.copyBlock(-1, 5, 2), NO_SUCH);
            due("to -1, the last target word would be 0", x.copyBlock(5, -1, 2), NO_SUCH);
            due("from 32 comes before words 0", x.copyBlock(32, 0, 0), NO_SUCH);
            due("to 32 comes before words 17", x.copyBlock(0, 32, 17), NO_SUCH);
            due("from -1 comes before words 17", x.copyBlock(-1, 0, 17), NO_SUCH);
        });
        says("BAD_VALUE if words is out of range;", x -> {
            due("0", x.copyBlock(0, 0, 0), BAD_VALUE);
            due("1", x.copyBlock(0, 0, 1), 0);
            due("16", x.copyBlock(0, 0, 16), 0);
            due("17", x.copyBlock(0, 0, 17), BAD_VALUE);
            due("-1", x.copyBlock(31, 31, -1), BAD_VALUE);
            due("17 comes before the last word", x.copyBlock(31, 31, 17), BAD_VALUE);
            due("the greatest number", x.copyBlock(1, 1, Integer.MAX_VALUE), BAD_VALUE);
            due("the least number", x.copyBlock(1, 1, Integer.MIN_VALUE), BAD_VALUE);
        });
        says("NO_SUCH if the last source or target word would be above 31.", x -> {
            for (int words = 1; words <= 16; words++) {
                accepted("the last source word is 31", x.copyBlock(32 - words, 0, words));
                accepted("the last target word is 31", x.copyBlock(0, 32 - words, words));
                accepted("both are", x.copyBlock(32 - words, 32 - words, words));
                if (words > 1) {
                    due("the last source word would be 32", x.copyBlock(33 - words, 0, words), NO_SUCH);
                    due("the last target word would be 32", x.copyBlock(0, 33 - words, words), NO_SUCH);
                }
            }
            due("the last one would be 46", x.copyBlock(31, 31, 16), NO_SUCH);
        });
    }

    private void promise4() {
        section("Promise 4");
        says("Writes a value to words, which become clean.", x -> {
            for (int word = 8; word <= 13; word++) {
                poisonWord(x, word, 1);
            }
            x.setMirror(2, true);
            x.setMirror(3, true);
            due("fill(9, 4, ..)", x.fill(9, 4, 50), 4);
            for (int word = 8; word <= 13; word++) {
                boolean isInside = word >= 9 && word <= 12;
                due("value(" + word + ")", x.value(word), isInside ? 50 : 0);
                due("origin(" + word + ")", x.origin(word), isInside ? NONE : word - 8);
                due("hops(" + word + ")", x.hops(word), isInside ? NONE : 1);
                due("mirrorValue(" + word + ")", x.mirrorValue(word), isInside ? 50 : 0);
                due("mirrorOrigin(" + word + ")", x.mirrorOrigin(word), isInside ? NONE : word - 8);
            }
            due("nothing was healed", x.healed(), 0);
        });
        says("`word`: 0 to 31: the first word", x -> {
            range("word", 0, 31, NO_SUCH, word -> x.fill(word, 1, 60));
            due("value(0)", x.value(0), 60);
            due("value(1)", x.value(1), 60);
            due("value(2)", x.value(2), 0);
            due("value(29)", x.value(29), 0);
            due("value(31)", x.value(31), 60);
        });
        says("`words`: 1 to 16", x -> {
            range("words", 1, 16, BAD_VALUE, words -> x.fill(16, words, 61));
            x.fill(0, 1, 1);
            due("the first of 1", x.value(0), 1);
            due("behind the first", x.value(1), 0);
            x.fill(0, 15, 2);
            due("the last of 15", x.value(14), 2);
            due("behind the last of 15", x.value(15), 0);
            x.fill(0, 16, 3);
            due("the last of 16", x.value(15), 3);
            due("behind the last of 16", x.value(16), 61);
        });
        says("`value`: 0 to 65535", x -> {
            range("value", 0, 65535, BAD_VALUE, value -> x.fill(5, 1, value));
            due("65535", x.value(5), 65535);
            x.fill(5, 1, 0);
            due("0", x.value(5), 0);
        });
    }

    private void promise4Answers() {
        says("Returns the number of words that were poisoned before;", x -> {
            due("none of 16", x.fill(0, 16, 1), 0);
            x.inject(15);
            x.inject(16);
            due("the last of 16", x.fill(0, 16, 1), 1);
            due("the first of 16", x.fill(16, 16, 1), 1);
            due("none again", x.fill(0, 16, 1), 0);
            for (int word = 0; word < 16; word++) {
                x.inject(word);
            }
            due("15 of 16", x.fill(1, 16, 1), 15);
            due("the one before", x.fill(0, 1, 1), 1);
        });
        says("NO_SUCH if there is no such word;", x -> {
            range("word", 0, 31, NO_SUCH, word -> x.fill(word, 1, 60));
            due("-1, the last word would be 0", x.fill(-1, 2, 0), NO_SUCH);
            due("32 comes before words 0", x.fill(32, 0, 0), NO_SUCH);
            due("-1 comes before value 65536", x.fill(-1, 1, 65536), NO_SUCH);
        });
        says("BAD_VALUE if words or value is out of range;", x -> {
            due("words 0", x.fill(0, 0, 5), BAD_VALUE);
            due("words 1", x.fill(0, 1, 5), 0);
            due("words 16", x.fill(0, 16, 5), 0);
            due("words 17", x.fill(0, 17, 5), BAD_VALUE);
            due("value -1", x.fill(0, 1, -1), BAD_VALUE);
            due("value 0", x.fill(0, 1, 0), 0);
            due("value 65535", x.fill(0, 1, 65535), 0);
            due("value 65536", x.fill(0, 1, 65536), BAD_VALUE);
            due("words 17 comes before the last word", x.fill(31, 17, 5), BAD_VALUE);
            due("value 65536 comes before the last word", x.fill(31, 2, 65536), BAD_VALUE);
            due("nothing was written", x.value(0), 65535);
        });
        says("NO_SUCH if the last word would be above 31.", x -> {
            for (int words = 1; words <= 16; words++) {
                due("the last word is 31", x.fill(32 - words, words, words), 0);
                due("value(31)", x.value(31), words);
                if (words > 1) {
                    due("the last word would be 32", x.fill(33 - words, words, 99), NO_SUCH);
                    due("value(31)", x.value(31), words);
                }
            }
        });
    }

    private void promise5() {
        section("Promise 5");
        plain("Makes a page mirrored, or no longer mirrored.");
        says("`page`: 0 to 7", x -> {
            range("page", 0, 7, NO_SUCH, page -> x.setMirror(page, true));
            due("page 0", x.mirrorValue(3), 0);
            due("page 1", x.mirrorValue(4), 0);
            due("page 2", x.mirrorValue(8), NONE);
            due("page 6", x.mirrorValue(27), 0);
            due("page 7", x.mirrorValue(31), 0);
            range("page", 0, 7, NO_SUCH, page -> x.setMirror(page, false));
            due("page 0", x.mirrorValue(0), NONE);
            due("page 7", x.mirrorValue(31), NONE);
        });
        says("`isMirrored`: whether the page is mirrored afterwards", x -> {
            boolean[] asked = {false, true, true, false, false, true};
            for (boolean isMirrored : asked) {
                due("setMirror(2, " + isMirrored + ")", x.setMirror(2, isMirrored), isMirrored ? 1 : 0);
                due("mirrorValue(8)", x.mirrorValue(8), isMirrored ? 0 : NONE);
            }
        });
        says("(if it is already, the second copies become equal to the words anew)", x -> {
            x.setMirror(2, true);
            x.inject(8);
            x.inject(11);
            due("before", x.mirrorOrigin(8), NONE);
            due("anew", x.setMirror(2, true), 1);
            due("the first word", x.mirrorOrigin(8), 0);
            due("the last word", x.mirrorOrigin(11), 1);
            due("a clean word", x.mirrorOrigin(9), NONE);
            due("nothing can be healed now", x.scrub(2), 0);
            x.inject(8);
            x.setMirror(3, true);
            due("another page", x.mirrorOrigin(8), 0);
        });
        says("Returns the number of mirrored pages afterwards;", x -> {
            for (int page = 0; page < 8; page++) {
                due("one page more", x.setMirror(page, true), page + 1);
                due("the same page again", x.setMirror(page, true), page + 1);
            }
            for (int page = 7; page >= 0; page--) {
                due("one page less", x.setMirror(page, false), page);
                due("the same page again", x.setMirror(page, false), page);
            }
        });
        says("NO_SUCH if there is no such page.", x -> {
            range("page", 0, 7, NO_SUCH, page -> x.setMirror(page, false));
            due("page 8", x.setMirror(8, true), NO_SUCH);
            due("page -1", x.setMirror(-1, true), NO_SUCH);
            due("none was mirrored", x.setMirror(0, true), 1);
        });
    }

    private void promise6() {
        section("Promise 6");
        says("Scrubs a page: its words are fetched, one after the other,", x -> {
            x.fill(7, 6, 900);
            x.setMirror(1, true);
            x.setMirror(2, true);
            x.setMirror(3, true);
            for (int word = 7; word <= 12; word++) {
                x.inject(word);
            }
            due("scrub(2)", x.scrub(2), 4);
            for (int word = 7; word <= 12; word++) {
                due("origin(" + word + ")", x.origin(word), word == 7 ? 0 : word == 12 ? 5 : NONE);
                due("value(" + word + ")", x.value(word), 900);
            }
        });
        says("without any other effect.", x -> {
            x.setMirror(2, true);
            x.setMirror(3, true);
            x.inject(8);
            x.setMirror(2, true);
            x.inject(9);
            x.inject(12);
            x.load(0, 0, 8);
            due("scrub(2)", x.scrub(2), 1);
            due("a word with a poisoned second copy", x.origin(8), 0);
            due("its hops", x.hops(8), 0);
            due("its second copy", x.mirrorOrigin(8), 0);
            due("the second copy of a healed word", x.mirrorOrigin(9), NONE);
            due("another page", x.origin(12), 2);
            due("a register", x.registerOrigin(0, 0), 0);
            due("its hops", x.registerHops(0, 0), 1);
            due("injections", x.injections(), 3);
            due("faults", x.faults(), 0);
            due("mirrored pages", x.setMirror(2, true), 2);
        });
        says("`page`: 0 to 7", x -> {
            range("page", 0, 7, NO_SUCH, x::scrub);
            x.setMirror(0, true);
            x.setMirror(7, true);
            x.inject(0);
            x.inject(31);
            due("scrub(0)", x.scrub(0), 1);
            due("scrub(7)", x.scrub(7), 1);
        });
        says("Returns the number of words that were healed;", x -> {
            x.setMirror(5, true);
            for (int poisoned = 0; poisoned <= 4; poisoned++) {
                for (int i = 0; i < poisoned; i++) {
                    x.inject(20 + i);
                }
                due(poisoned + " poisoned words", x.scrub(5), poisoned);
            }
            due("none the second time", x.scrub(5), 0);
            x.inject(16);
            due("a page without a mirror", x.scrub(4), 0);
        });
        says("NO_SUCH if there is no such page.", x -> {
            due("-1", x.scrub(-1), NO_SUCH);
            due("0", x.scrub(0), 0);
            due("7", x.scrub(7), 0);
            due("8", x.scrub(8), NO_SUCH);
            due("32", x.scrub(32), NO_SUCH);
        });
    }
}
