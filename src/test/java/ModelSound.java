/** The sound of the Model, DOT by DOT. */
final class ModelSound {
    private static final int[] MASKS = {0x80, 0x3F, 0x00, 0xFF, 0xBF, 0xFF, 0x3F, 0x00, 0xFF, 0xBF, 0x7F, 0xFF, 0x9F, 0xFF, 0xBF,
        0xFF, 0xFF, 0x00, 0x00, 0xBF, 0x00, 0x00};
    private static final String[] DUTIES = {"00000001", "10000001", "10000111", "01111110"};

    int heard;
    private boolean isOn = true;
    /** Registers 10 to 25. */
    private int[] r = new int[22];
    private int[] wave = new int[16];
    private boolean[] on = new boolean[4];
    private int[] length = new int[4];
    private int[] period = new int[4];
    private int[] position = new int[4];
    private int[] volume = new int[4];
    private int[] count = new int[4];
    private int noise;
    private int shadow;
    private int sweepCount;
    private boolean sweepCounts;
    private int step;
    private int dots;

    private int base(int channel) {
        return 5 * channel;
    }

    int read(int low) {
        if (low >= 0x30) {
            return wave[low - 0x30];
        }
        if (low == 0x26) {
            int v = isOn ? 0xF0 : 0x70;
            for (int k = 0; k < 4; k++) {
                v += on[k] ? 1 << k : 0;
            }
            return v;
        }
        return low > 0x26 ? 255 : r[low - 0x10] | MASKS[low - 0x10];
    }

    void write(int low, int v) {
        if (low >= 0x30) {
            wave[low - 0x30] = v;
        } else if (low == 0x26) {
            turn(v >= 128);
        } else if (low < 0x26 && isOn && low != 0x15 && low != 0x1F) {
            r[low - 0x10] = v;
            if (low < 0x24) {
                written((low - 0x10) / 5, (low - 0x10) % 5, v);
            }
        }
    }

    private void turn(boolean wanted) {
        if (isOn && !wanted) {
            r = new int[22];
            on = new boolean[4];
        } else if (!isOn && wanted) {
            step = 0;
            position = new int[4];
        }
        isOn = wanted;
    }

    private boolean dac(int channel) {
        return channel == 2 ? r[10] >= 128 : r[base(channel) + 2] / 8 != 0;
    }

    private void written(int channel, int place, int v) {
        if (place == 1) {
            length[channel] = channel == 2 ? 256 - v : 64 - v % 64;
        }
        if (place == 4 && v >= 128) {
            begin(channel);
        }
        for (int k = 0; k < 4; k++) {
            on[k] &= dac(k);
        }
    }

    private void begin(int channel) {
        on[channel] = true;
        if (length[channel] == 0) {
            length[channel] = channel == 2 ? 256 : 64;
        }
        period[channel] = span(channel);
        if (channel == 2) {
            position[2] = 0;
        } else {
            volume[channel] = r[base(channel) + 2] / 16;
            count[channel] = r[base(channel) + 2] % 8;
        }
        if (channel == 3) {
            noise = 0x7FFF;
        }
        if (channel == 0) {
            shadow = frequency(0);
            sweepCount = pace();
            sweepCounts = (r[0] & 0x70) != 0 || (r[0] & 7) != 0;
            if ((r[0] & 7) != 0) {
                reckoned();
            }
        }
    }

    private int frequency(int channel) {
        return r[base(channel) + 3] + 256 * (r[base(channel) + 4] % 8);
    }

    private int pace() {
        int pace = r[0] / 16 % 8;
        return pace == 0 ? 8 : pace;
    }

    private int span(int channel) {
        if (channel == 3) {
            int[] first = {8, 16, 32, 48, 64, 80, 96, 112};
            return first[r[18] % 8] << r[18] / 16;
        }
        return (channel == 2 ? 2 : 4) * (2048 - frequency(channel));
    }

    void step() {
        if (!isOn) {
            return;
        }
        if (step % 2 == 0) {
            for (int k = 0; k < 4; k++) {
                if ((r[base(k) + 4] & 64) != 0 && length[k] > 0) {
                    length[k]--;
                    on[k] &= length[k] != 0;
                }
            }
        }
        if (step == 2 || step == 6) {
            sweep();
        }
        if (step == 7) {
            envelope(0);
            envelope(1);
            envelope(3);
        }
        step = (step + 1) % 8;
    }

    private void sweep() {
        sweepCount--;
        if (sweepCount > 0) {
            return;
        }
        sweepCount = pace();
        if (sweepCounts && (r[0] & 0x70) != 0) {
            int found = reckoned();
            if (found <= 2047 && (r[0] & 7) != 0) {
                shadow = found;
                r[3] = found % 256;
                r[4] = r[4] / 8 * 8 + found / 256;
                reckoned();
            }
        }
    }

    private int reckoned() {
        int change = shadow >> (r[0] & 7);
        int found = (r[0] & 8) != 0 ? shadow - change : shadow + change;
        if (found > 2047) {
            on[0] = false;
        }
        return found;
    }

    private void envelope(int channel) {
        int v = r[base(channel) + 2];
        if (v % 8 == 0) {
            return;
        }
        count[channel]--;
        if (count[channel] <= 0) {
            count[channel] = v % 8;
            int next = volume[channel] + ((v & 8) != 0 ? 1 : -1);
            if (next >= 0 && next <= 15) {
                volume[channel] = next;
            }
        }
    }

    void dot() {
        for (int k = 0; k < 4 && isOn; k++) {
            period[k]--;
            if (period[k] <= 0) {
                period[k] += span(k);
                if (k == 3) {
                    shiftNoise();
                } else {
                    position[k] = (position[k] + 1) % (k == 2 ? 32 : 8);
                }
            }
        }
        dots++;
        if (dots == 64) {
            dots = 0;
            hear();
        }
    }

    private void shiftNoise() {
        int bit = noise % 2 ^ noise / 2 % 2;
        noise = noise / 2 % 0x4000 + 0x4000 * bit;
        if ((r[18] & 8) != 0) {
            noise = noise & ~64 | 64 * bit;
        }
    }

    int level(int channel) {
        if (!on[channel]) {
            return 0;
        }
        if (channel == 2) {
            int both = wave[position[2] / 2];
            int half = position[2] % 2 == 0 ? both / 16 : both % 16;
            int[] shifts = {4, 0, 1, 2};
            return half >> shifts[r[12] / 32 % 4];
        }
        if (channel == 3) {
            return noise % 2 == 0 ? volume[3] : 0;
        }
        return DUTIES[r[base(channel) + 1] / 64].charAt(position[channel]) == '1' ? volume[channel] : 0;
    }

    private void hear() {
        int left = 0;
        int right = 0;
        for (int k = 0; k < 4; k++) {
            left += (r[21] >> 4 + k & 1) * level(k);
            right += (r[21] >> k & 1) * level(k);
        }
        heard = heard * 31 + left * (r[20] / 16 % 8 + 1) * 512 + right * (r[20] % 8 + 1);
    }
}
