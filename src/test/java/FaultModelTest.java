/** Texts by lot, many of them spoilt, long ones too: FAULT and place are held against those of the plain Model. */
public final class FaultModelTest {
    private static final int TEXTS = 4000;

    public static void main(String[] args) {
        RandomTexts texts = new RandomTexts(77);
        WhichBin x = new WhichBin();
        int[] counts = new int[6];
        for (int i = 0; i < TEXTS; i++) {
            StringBuilder text = new StringBuilder(texts.next());
            for (int more = i % 7; more > 3 && text.length() < 1900; more--) {
                text.append(texts.next());
            }
            text.setLength(Math.min(text.length(), 2000));
            Model m = new Model();
            m.tape = text.toString();
            Check.feed(x, text.toString());
            int fault = m.read();
            Check.due("read of " + text, x.read(), fault);
            Check.due("place of " + text, x.place(), m.place());
            counts[fault]++;
            if (i % 4 == 3) {
                x = new WhichBin();
            }
        }
        for (int fault = 0; fault < counts.length; fault++) {
            System.out.println("fault " + fault + ": " + counts[fault] + " texts");
        }
        Check.finish("FaultModelTest");
    }
}
