/** Every text that is one byte away from a sound one is read as the model reads it. */
public final class TextEditsTest {
    private static final String[] TEXTS = {
        "lost>12&wet<3=change; age > 7 = leave;",
        "side>1&stone<22&harm>333=mend;",
        "state<1=mend;".repeat(6),
        "age>1=mend;".repeat(6) + " age<2=leave;",
        "age>1&age>2&age>3&age>4=mend;",
        "age>1&age>2&age>3=mend;age>1&age>2&age>3=leave;",
        "age>999=mend;lost<0000=leave;",
    };

    public static void main(String[] args) {
        Sentence.quote("FAULTS, at the first byte that has one (the end at the text's length), of these the least");
        for (String text : TEXTS) {
            compare(text);
            for (int at = 0; at <= text.length(); at++) {
                String before = text.substring(0, at);
                String behind = text.substring(at);
                compare(before);
                compare(behind);
                for (char c = 0; c < 256; c++) {
                    compare(before + c + behind);
                    compare(behind.isEmpty() ? before : before + c + behind.substring(1));
                }
                compare(behind.isEmpty() ? before : before + behind.substring(1));
            }
        }
        Due.end();
    }

    private static void compare(String text) {
        StoneKeep keep = new StoneKeep();
        Model model = new Model();
        for (int i = 0; i < text.length(); i++) {
            keep.feed(1, text.charAt(i));
            model.feed(1, text.charAt(i));
        }
        Due.is("read of '" + text + "'", keep.read(), model.read());
        Due.is("fault of '" + text + "'", keep.fault(), model.fault());
        Due.is("clauses of '" + text + "'", keep.count(5), model.count(5));
    }
}
