/-! THE LAW: one call, on -/
theorem lc_32 {E : En} {h : Hp} {A : Nat → Nat} {j c k n : Nat} {PP : Option Value → Hp → Prop} {X : String → Hp → Prop} (hl : eXl E < 2 ^ 31) (hj : j + 5 < eXl E) (a : AnsW E m_LW_isTrue m_MO_isTrue fZ [.int (eXs E (j + 1))] h A c) (kk : ∀ h1, LOK h1 A (c + 1) → G E m_LAW 3284 [(4, .int (nI j)), (3, .ref (A 0)), (2, .ref (A 8)), (1, .ref (A 22)), (0, .ref (eXa E))] [] h1 k n PP X) : G E m_LAW 1745 [(4, .int (nI j)), (3, .ref (A 0)), (2, .ref (A 8)), (1, .ref (A 22)), (0, .ref (eXa E))] [] h (k + 11) (n + 156) PP X := by
  refine g_aload_n (pc := 1745) d_LAW_1745 rfl 3 rfl ?_
  refine g_aload_n (pc := 1746) d_LAW_1746 rfl 4 rfl ?_
  refine g_iload (pc := 1747) d_LAW_1747 0 rfl ?_
  refine g_iconst (pc := 1749) (v := 1) d_LAW_1749 (by decide) ?_
  refine g_iadd (pc := 1750) d_LAW_1750 ?_
  refine g_top (y := nI (j + 1)) (nI_add j 1) ?_
  refine g_sld (pc := 1751) (j := j + 1) (by omega) hl d_LAW_1751 ?_
  refine g_aload_n (pc := 1752) d_LAW_1752 rfl 1 rfl ?_
  refine g_callSX (k := k) (n := n) (kz := 11) (nz := 156) (pc := 1753) (As := [.ref _, .int _, .ref _]) d_LAW_1753 rfl mx_LW_isTrue st_LAW_280 rfl rfl (Nat.le_of_ble_eq_true rfl) a (fun _ _ z => z.elim) (fun v h1 z => ?_)
  obtain ⟨code, z, hcd, rfl, km, hz, hm⟩ := z
  refine g_istore (pc := 1756) (lv' := [(5, .int (nI code)), (4, .int (nI j)), (3, .ref (A 0)), (2, .ref (A 8)), (1, .ref (A 22)), (0, .ref (eXa E))]) d_LAW_1756 (by decide) rfl ?_
  refine g_aload_n (pc := 1758) d_LAW_1758 rfl 3 rfl ?_
  refine g_aload_n (pc := 1759) d_LAW_1759 rfl 5 rfl ?_
  refine g_iload (pc := 1760) d_LAW_1760 1 rfl ?_
  refine g_iconst (pc := 1762) (v := 1) d_LAW_1762 (by decide) ?_
  refine g_iadd (pc := 1763) d_LAW_1763 ?_
  refine g_top (y := nI (j + 1)) (nI_add j 1) ?_
  refine g_sld (pc := 1764) (j := j + 1) (by omega) hl d_LAW_1764 ?_
  refine g_callV (k := k) (n := n) (kz := 0) (nz := 0) (pc := 1765) (ci := 7) (As := [.int _]) d_LAW_1765 rfl mv_MO_isTrue st_LAW_282 rfl rfl (by decide) km rfl rfl (Nat.le_of_ble_eq_true rfl) hm (fun _ _ z => z.elim) (fun v h2 z => ?_)
  obtain ⟨yv, rfl, e17, hf, eJ, γ', s', L'⟩ := z
  refine g_istore (pc := 1768) (lv' := [(6, .int yv), (5, .int (nI code)), (4, .int (nI j)), (3, .ref (A 0)), (2, .ref (A 8)), (1, .ref (A 22)), (0, .ref (eXa E))]) d_LAW_1768 (by decide) rfl ?_
  refine g_aload_n (pc := 1770) d_LAW_1770 rfl 4 rfl ?_
  refine g_cV1 (pc := 1771) (ci := 7) (As := []) d_LAW_1771 rfl mv_MO_thrown st_LAW_171 rfl rfl (by decide) rfl rfl (Nat.le_of_ble_eq_true rfl) L'.1.2.1.1.1 (thr_ct L') ?_
  refine g_top e17 ?_
  refine g_iload (pc := 1774) d_LAW_1774 1 rfl ?_
  refine g_icmp_eq (pc := 1776) (tgt := 1781) d_LAW_1776 (by decide) (fun _ => ?_) (fun q => absurd rfl q)
  refine g_iload (pc := 1781) d_LAW_1781 1 rfl ?_
  refine g_if_ne (pc := 1783) (tgt := 1805) d_LAW_1783 (by decide) (fun q => ?_) (fun q => ?_)
  · skip
    refine g_goto (pc := 1805) (tgt := 3284) d_LAW_1805 (by decide) ?_
    refine g_perm [2, 3, 4, 5, 6] rfl ?_
    exact kk _ ⟨γ', s', L'⟩
  · have c0 := code0 hcd q
    refine g_aload_n (pc := 1786) d_LAW_1786 rfl 3 rfl ?_
    refine g_iconst (pc := 1787) (v := 0) d_LAW_1787 (by decide) ?_
    refine g_laload (pc := 1788) d_LAW_1788 L'.1.2.1.2.2.2.1 (z_vp L'.1.2.1.2.2.2.2) ?_
    refine g_iload (pc := 1789) d_LAW_1789 0 rfl ?_
    refine g_if_eq (pc := 1791) (tgt := 1798) d_LAW_1791 (by decide) (fun b0 => ?_) (fun b0 => ?_)
    · skip
      refine g_lconst (pc := 1798) (v := 0) d_LAW_1798 (by decide) ?_
      refine g_lcmp (pc := 1799) d_LAW_1799 ?_
      refine g_top (y := 0) (by
        show lg_cmp (hJ h2 (A 0) 0) 0 = 0
        rw [eJ, hz c0, ← hf c0]
        show lg_cmp (if yv = 0 then 0 else 1) 0 = 0
        rw [if_pos b0]
        exact lg_self _) ?_
      refine g_if_eq (pc := 1800) (tgt := 1805) d_LAW_1800 (by decide) (fun _ => ?_) (fun q => absurd rfl q)
      refine g_goto (pc := 1805) (tgt := 3284) d_LAW_1805 (by decide) ?_
      refine g_perm [2, 3, 4, 5, 6] rfl ?_
      exact kk _ ⟨γ', s', L'⟩
    · skip
      refine g_lconst (pc := 1794) (v := 1) d_LAW_1794 (by decide) ?_
      refine g_goto (pc := 1795) (tgt := 1799) d_LAW_1795 (by decide) ?_
      refine g_lcmp (pc := 1799) d_LAW_1799 ?_
      refine g_top (y := 0) (by
        show lg_cmp (hJ h2 (A 0) 0) 1 = 0
        rw [eJ, hz c0, ← hf c0]
        show lg_cmp (if yv = 0 then 0 else 1) 1 = 0
        rw [if_neg b0]
        exact lg_self _) ?_
      refine g_if_eq (pc := 1800) (tgt := 1805) d_LAW_1800 (by decide) (fun _ => ?_) (fun q => absurd rfl q)
      refine g_goto (pc := 1805) (tgt := 3284) d_LAW_1805 (by decide) ?_
      refine g_perm [2, 3, 4, 5, 6] rfl ?_
      exact kk _ ⟨γ', s', L'⟩
theorem lc_33 {E : En} {h : Hp} {A : Nat → Nat} {j c k n : Nat} {PP : Option Value → Hp → Prop} {X : String → Hp → Prop} (hl : eXl E < 2 ^ 31) (hj : j + 5 < eXl E) (a : AnsW E m_LW_worstWeight m_MO_worstWeight fI [.int (eXs E (j + 1))] h A c) (kk : ∀ h1, LOK h1 A (c + 1) → G E m_LAW 3284 [(4, .int (nI j)), (3, .ref (A 0)), (2, .ref (A 8)), (1, .ref (A 22)), (0, .ref (eXa E))] [] h1 k n PP X) : G E m_LAW 1808 [(4, .int (nI j)), (3, .ref (A 0)), (2, .ref (A 8)), (1, .ref (A 22)), (0, .ref (eXa E))] [] h (k + 11) (n + 156) PP X := by
  refine g_aload_n (pc := 1808) d_LAW_1808 rfl 3 rfl ?_
  refine g_aload_n (pc := 1809) d_LAW_1809 rfl 4 rfl ?_
  refine g_iload (pc := 1810) d_LAW_1810 0 rfl ?_
  refine g_iconst (pc := 1812) (v := 1) d_LAW_1812 (by decide) ?_
  refine g_iadd (pc := 1813) d_LAW_1813 ?_
  refine g_top (y := nI (j + 1)) (nI_add j 1) ?_
  refine g_sld (pc := 1814) (j := j + 1) (by omega) hl d_LAW_1814 ?_
  refine g_aload_n (pc := 1815) d_LAW_1815 rfl 1 rfl ?_
  refine g_callSX (k := k) (n := n) (kz := 11) (nz := 156) (pc := 1816) (As := [.ref _, .int _, .ref _]) d_LAW_1816 rfl mx_LW_worstWeight st_LAW_283 rfl rfl (Nat.le_of_ble_eq_true rfl) a (fun _ _ z => z.elim) (fun v h1 z => ?_)
  obtain ⟨code, z, hcd, rfl, km, hz, hm⟩ := z
  refine g_istore (pc := 1819) (lv' := [(5, .int (nI code)), (4, .int (nI j)), (3, .ref (A 0)), (2, .ref (A 8)), (1, .ref (A 22)), (0, .ref (eXa E))]) d_LAW_1819 (by decide) rfl ?_
  refine g_aload_n (pc := 1821) d_LAW_1821 rfl 3 rfl ?_
  refine g_aload_n (pc := 1822) d_LAW_1822 rfl 5 rfl ?_
  refine g_iload (pc := 1823) d_LAW_1823 1 rfl ?_
  refine g_iconst (pc := 1825) (v := 1) d_LAW_1825 (by decide) ?_
  refine g_iadd (pc := 1826) d_LAW_1826 ?_
  refine g_top (y := nI (j + 1)) (nI_add j 1) ?_
  refine g_sld (pc := 1827) (j := j + 1) (by omega) hl d_LAW_1827 ?_
  refine g_callV (k := k) (n := n) (kz := 0) (nz := 0) (pc := 1828) (ci := 7) (As := [.int _]) d_LAW_1828 rfl mv_MO_worstWeight st_LAW_285 rfl rfl (by decide) km rfl rfl (Nat.le_of_ble_eq_true rfl) hm (fun _ _ z => z.elim) (fun v h2 z => ?_)
  obtain ⟨yv, rfl, e17, hf, eJ, γ', s', L'⟩ := z
  refine g_istore (pc := 1831) (lv' := [(6, .int yv), (5, .int (nI code)), (4, .int (nI j)), (3, .ref (A 0)), (2, .ref (A 8)), (1, .ref (A 22)), (0, .ref (eXa E))]) d_LAW_1831 (by decide) rfl ?_
  refine g_aload_n (pc := 1833) d_LAW_1833 rfl 4 rfl ?_
  refine g_cV1 (pc := 1834) (ci := 7) (As := []) d_LAW_1834 rfl mv_MO_thrown st_LAW_171 rfl rfl (by decide) rfl rfl (Nat.le_of_ble_eq_true rfl) L'.1.2.1.1.1 (thr_ct L') ?_
  refine g_top e17 ?_
  refine g_iload (pc := 1837) d_LAW_1837 1 rfl ?_
  refine g_icmp_eq (pc := 1839) (tgt := 1844) d_LAW_1839 (by decide) (fun _ => ?_) (fun q => absurd rfl q)
  refine g_iload (pc := 1844) d_LAW_1844 1 rfl ?_
  refine g_if_ne (pc := 1846) (tgt := 1861) d_LAW_1846 (by decide) (fun q => ?_) (fun q => ?_)
  · skip
    refine g_goto (pc := 1861) (tgt := 3284) d_LAW_1861 (by decide) ?_
    refine g_perm [2, 3, 4, 5, 6] rfl ?_
    exact kk _ ⟨γ', s', L'⟩
  · have c0 := code0 hcd q
    refine g_aload_n (pc := 1849) d_LAW_1849 rfl 3 rfl ?_
    refine g_iconst (pc := 1850) (v := 0) d_LAW_1850 (by decide) ?_
    refine g_laload (pc := 1851) d_LAW_1851 L'.1.2.1.2.2.2.1 (z_vp L'.1.2.1.2.2.2.2) ?_
    refine g_iload (pc := 1852) d_LAW_1852 0 rfl ?_
    refine g_i2l (pc := 1854) d_LAW_1854 ?_
    refine g_lcmp (pc := 1855) d_LAW_1855 ?_
    refine g_top (y := 0) (by
      show lg_cmp (hJ h2 (A 0) 0) yv.toInt64 = 0
      rw [eJ, hz c0, ← hf c0]
      exact lg_self _) ?_
    refine g_if_eq (pc := 1856) (tgt := 1861) d_LAW_1856 (by decide) (fun _ => ?_) (fun q => absurd rfl q)
    refine g_goto (pc := 1861) (tgt := 3284) d_LAW_1861 (by decide) ?_
    refine g_perm [2, 3, 4, 5, 6] rfl ?_
    exact kk _ ⟨γ', s', L'⟩
theorem lc_34 {E : En} {h : Hp} {A : Nat → Nat} {j c k n : Nat} {PP : Option Value → Hp → Prop} {X : String → Hp → Prop} (hl : eXl E < 2 ^ 31) (hj : j + 5 < eXl E) (a : AnsW E m_LW_stampedUntil m_MO_stampedUntil fI [.int (eXs E (j + 1))] h A c) (kk : ∀ h1, LOK h1 A (c + 1) → G E m_LAW 3284 [(4, .int (nI j)), (3, .ref (A 0)), (2, .ref (A 8)), (1, .ref (A 22)), (0, .ref (eXa E))] [] h1 k n PP X) : G E m_LAW 1864 [(4, .int (nI j)), (3, .ref (A 0)), (2, .ref (A 8)), (1, .ref (A 22)), (0, .ref (eXa E))] [] h (k + 11) (n + 156) PP X := by
  refine g_aload_n (pc := 1864) d_LAW_1864 rfl 3 rfl ?_
  refine g_aload_n (pc := 1865) d_LAW_1865 rfl 4 rfl ?_
  refine g_iload (pc := 1866) d_LAW_1866 0 rfl ?_
  refine g_iconst (pc := 1868) (v := 1) d_LAW_1868 (by decide) ?_
  refine g_iadd (pc := 1869) d_LAW_1869 ?_
  refine g_top (y := nI (j + 1)) (nI_add j 1) ?_
  refine g_sld (pc := 1870) (j := j + 1) (by omega) hl d_LAW_1870 ?_
  refine g_aload_n (pc := 1871) d_LAW_1871 rfl 1 rfl ?_
  refine g_callSX (k := k) (n := n) (kz := 11) (nz := 156) (pc := 1872) (As := [.ref _, .int _, .ref _]) d_LAW_1872 rfl mx_LW_stampedUntil st_LAW_286 rfl rfl (Nat.le_of_ble_eq_true rfl) a (fun _ _ z => z.elim) (fun v h1 z => ?_)
  obtain ⟨code, z, hcd, rfl, km, hz, hm⟩ := z
  refine g_istore (pc := 1875) (lv' := [(5, .int (nI code)), (4, .int (nI j)), (3, .ref (A 0)), (2, .ref (A 8)), (1, .ref (A 22)), (0, .ref (eXa E))]) d_LAW_1875 (by decide) rfl ?_
  refine g_aload_n (pc := 1877) d_LAW_1877 rfl 3 rfl ?_
  refine g_aload_n (pc := 1878) d_LAW_1878 rfl 5 rfl ?_
  refine g_iload (pc := 1879) d_LAW_1879 1 rfl ?_
  refine g_iconst (pc := 1881) (v := 1) d_LAW_1881 (by decide) ?_
  refine g_iadd (pc := 1882) d_LAW_1882 ?_
  refine g_top (y := nI (j + 1)) (nI_add j 1) ?_
  refine g_sld (pc := 1883) (j := j + 1) (by omega) hl d_LAW_1883 ?_
  refine g_callV (k := k) (n := n) (kz := 0) (nz := 0) (pc := 1884) (ci := 7) (As := [.int _]) d_LAW_1884 rfl mv_MO_stampedUntil st_LAW_288 rfl rfl (by decide) km rfl rfl (Nat.le_of_ble_eq_true rfl) hm (fun _ _ z => z.elim) (fun v h2 z => ?_)
  obtain ⟨yv, rfl, e17, hf, eJ, γ', s', L'⟩ := z
  refine g_istore (pc := 1887) (lv' := [(6, .int yv), (5, .int (nI code)), (4, .int (nI j)), (3, .ref (A 0)), (2, .ref (A 8)), (1, .ref (A 22)), (0, .ref (eXa E))]) d_LAW_1887 (by decide) rfl ?_
  refine g_aload_n (pc := 1889) d_LAW_1889 rfl 4 rfl ?_
  refine g_cV1 (pc := 1890) (ci := 7) (As := []) d_LAW_1890 rfl mv_MO_thrown st_LAW_171 rfl rfl (by decide) rfl rfl (Nat.le_of_ble_eq_true rfl) L'.1.2.1.1.1 (thr_ct L') ?_
  refine g_top e17 ?_
  refine g_iload (pc := 1893) d_LAW_1893 1 rfl ?_
  refine g_icmp_eq (pc := 1895) (tgt := 1900) d_LAW_1895 (by decide) (fun _ => ?_) (fun q => absurd rfl q)
  refine g_iload (pc := 1900) d_LAW_1900 1 rfl ?_
  refine g_if_ne (pc := 1902) (tgt := 1917) d_LAW_1902 (by decide) (fun q => ?_) (fun q => ?_)
  · skip
    refine g_goto (pc := 1917) (tgt := 3284) d_LAW_1917 (by decide) ?_
    refine g_perm [2, 3, 4, 5, 6] rfl ?_
    exact kk _ ⟨γ', s', L'⟩
  · have c0 := code0 hcd q
    refine g_aload_n (pc := 1905) d_LAW_1905 rfl 3 rfl ?_
    refine g_iconst (pc := 1906) (v := 0) d_LAW_1906 (by decide) ?_
    refine g_laload (pc := 1907) d_LAW_1907 L'.1.2.1.2.2.2.1 (z_vp L'.1.2.1.2.2.2.2) ?_
    refine g_iload (pc := 1908) d_LAW_1908 0 rfl ?_
    refine g_i2l (pc := 1910) d_LAW_1910 ?_
    refine g_lcmp (pc := 1911) d_LAW_1911 ?_
    refine g_top (y := 0) (by
      show lg_cmp (hJ h2 (A 0) 0) yv.toInt64 = 0
      rw [eJ, hz c0, ← hf c0]
      exact lg_self _) ?_
    refine g_if_eq (pc := 1912) (tgt := 1917) d_LAW_1912 (by decide) (fun _ => ?_) (fun q => absurd rfl q)
    refine g_goto (pc := 1917) (tgt := 3284) d_LAW_1917 (by decide) ?_
    refine g_perm [2, 3, 4, 5, 6] rfl ?_
    exact kk _ ⟨γ', s', L'⟩
theorem lc_35 {E : En} {h : Hp} {A : Nat → Nat} {j c k n : Nat} {PP : Option Value → Hp → Prop} {X : String → Hp → Prop} (hl : eXl E < 2 ^ 31) (hj : j + 5 < eXl E) (a : AnsW E m_LW_isStamped m_MO_isStamped fZ [.int (eXs E (j + 1))] h A c) (kk : ∀ h1, LOK h1 A (c + 1) → G E m_LAW 3284 [(4, .int (nI j)), (3, .ref (A 0)), (2, .ref (A 8)), (1, .ref (A 22)), (0, .ref (eXa E))] [] h1 k n PP X) : G E m_LAW 1920 [(4, .int (nI j)), (3, .ref (A 0)), (2, .ref (A 8)), (1, .ref (A 22)), (0, .ref (eXa E))] [] h (k + 11) (n + 156) PP X := by
  refine g_aload_n (pc := 1920) d_LAW_1920 rfl 3 rfl ?_
  refine g_aload_n (pc := 1921) d_LAW_1921 rfl 4 rfl ?_
  refine g_iload (pc := 1922) d_LAW_1922 0 rfl ?_
  refine g_iconst (pc := 1924) (v := 1) d_LAW_1924 (by decide) ?_
  refine g_iadd (pc := 1925) d_LAW_1925 ?_
  refine g_top (y := nI (j + 1)) (nI_add j 1) ?_
  refine g_sld (pc := 1926) (j := j + 1) (by omega) hl d_LAW_1926 ?_
  refine g_aload_n (pc := 1927) d_LAW_1927 rfl 1 rfl ?_
  refine g_callSX (k := k) (n := n) (kz := 11) (nz := 156) (pc := 1928) (As := [.ref _, .int _, .ref _]) d_LAW_1928 rfl mx_LW_isStamped st_LAW_289 rfl rfl (Nat.le_of_ble_eq_true rfl) a (fun _ _ z => z.elim) (fun v h1 z => ?_)
  obtain ⟨code, z, hcd, rfl, km, hz, hm⟩ := z
  refine g_istore (pc := 1931) (lv' := [(5, .int (nI code)), (4, .int (nI j)), (3, .ref (A 0)), (2, .ref (A 8)), (1, .ref (A 22)), (0, .ref (eXa E))]) d_LAW_1931 (by decide) rfl ?_
  refine g_aload_n (pc := 1933) d_LAW_1933 rfl 3 rfl ?_
  refine g_aload_n (pc := 1934) d_LAW_1934 rfl 5 rfl ?_
  refine g_iload (pc := 1935) d_LAW_1935 1 rfl ?_
  refine g_iconst (pc := 1937) (v := 1) d_LAW_1937 (by decide) ?_
  refine g_iadd (pc := 1938) d_LAW_1938 ?_
  refine g_top (y := nI (j + 1)) (nI_add j 1) ?_
  refine g_sld (pc := 1939) (j := j + 1) (by omega) hl d_LAW_1939 ?_
  refine g_callV (k := k) (n := n) (kz := 0) (nz := 0) (pc := 1940) (ci := 7) (As := [.int _]) d_LAW_1940 rfl mv_MO_isStamped st_LAW_291 rfl rfl (by decide) km rfl rfl (Nat.le_of_ble_eq_true rfl) hm (fun _ _ z => z.elim) (fun v h2 z => ?_)
  obtain ⟨yv, rfl, e17, hf, eJ, γ', s', L'⟩ := z
  refine g_istore (pc := 1943) (lv' := [(6, .int yv), (5, .int (nI code)), (4, .int (nI j)), (3, .ref (A 0)), (2, .ref (A 8)), (1, .ref (A 22)), (0, .ref (eXa E))]) d_LAW_1943 (by decide) rfl ?_
  refine g_aload_n (pc := 1945) d_LAW_1945 rfl 4 rfl ?_
  refine g_cV1 (pc := 1946) (ci := 7) (As := []) d_LAW_1946 rfl mv_MO_thrown st_LAW_171 rfl rfl (by decide) rfl rfl (Nat.le_of_ble_eq_true rfl) L'.1.2.1.1.1 (thr_ct L') ?_
  refine g_top e17 ?_
  refine g_iload (pc := 1949) d_LAW_1949 1 rfl ?_
  refine g_icmp_eq (pc := 1951) (tgt := 1956) d_LAW_1951 (by decide) (fun _ => ?_) (fun q => absurd rfl q)
  refine g_iload (pc := 1956) d_LAW_1956 1 rfl ?_
  refine g_if_ne (pc := 1958) (tgt := 1980) d_LAW_1958 (by decide) (fun q => ?_) (fun q => ?_)
  · skip
    refine g_goto (pc := 1980) (tgt := 3284) d_LAW_1980 (by decide) ?_
    refine g_perm [2, 3, 4, 5, 6] rfl ?_
    exact kk _ ⟨γ', s', L'⟩
  · have c0 := code0 hcd q
    refine g_aload_n (pc := 1961) d_LAW_1961 rfl 3 rfl ?_
    refine g_iconst (pc := 1962) (v := 0) d_LAW_1962 (by decide) ?_
    refine g_laload (pc := 1963) d_LAW_1963 L'.1.2.1.2.2.2.1 (z_vp L'.1.2.1.2.2.2.2) ?_
    refine g_iload (pc := 1964) d_LAW_1964 0 rfl ?_
    refine g_if_eq (pc := 1966) (tgt := 1973) d_LAW_1966 (by decide) (fun b0 => ?_) (fun b0 => ?_)
    · skip
      refine g_lconst (pc := 1973) (v := 0) d_LAW_1973 (by decide) ?_
      refine g_lcmp (pc := 1974) d_LAW_1974 ?_
      refine g_top (y := 0) (by
        show lg_cmp (hJ h2 (A 0) 0) 0 = 0
        rw [eJ, hz c0, ← hf c0]
        show lg_cmp (if yv = 0 then 0 else 1) 0 = 0
        rw [if_pos b0]
        exact lg_self _) ?_
      refine g_if_eq (pc := 1975) (tgt := 1980) d_LAW_1975 (by decide) (fun _ => ?_) (fun q => absurd rfl q)
      refine g_goto (pc := 1980) (tgt := 3284) d_LAW_1980 (by decide) ?_
      refine g_perm [2, 3, 4, 5, 6] rfl ?_
      exact kk _ ⟨γ', s', L'⟩
    · skip
      refine g_lconst (pc := 1969) (v := 1) d_LAW_1969 (by decide) ?_
      refine g_goto (pc := 1970) (tgt := 1974) d_LAW_1970 (by decide) ?_
      refine g_lcmp (pc := 1974) d_LAW_1974 ?_
      refine g_top (y := 0) (by
        show lg_cmp (hJ h2 (A 0) 0) 1 = 0
        rw [eJ, hz c0, ← hf c0]
        show lg_cmp (if yv = 0 then 0 else 1) 1 = 0
        rw [if_neg b0]
        exact lg_self _) ?_
      refine g_if_eq (pc := 1975) (tgt := 1980) d_LAW_1975 (by decide) (fun _ => ?_) (fun q => absurd rfl q)
      refine g_goto (pc := 1980) (tgt := 3284) d_LAW_1980 (by decide) ?_
      refine g_perm [2, 3, 4, 5, 6] rfl ?_
      exact kk _ ⟨γ', s', L'⟩
theorem lc_36 {E : En} {h : Hp} {A : Nat → Nat} {j c k n : Nat} {PP : Option Value → Hp → Prop} {X : String → Hp → Prop} (hl : eXl E < 2 ^ 31) (hj : j + 5 < eXl E) (k_x : hK h (A 22) = 1) (a : AnsD E m_HS_shopCount m_MO_shopCount [] h A c) (kk : ∀ h1, LOK h1 A (c + 1) → G E m_LAW 3284 [(4, .int (nI j)), (3, .ref (A 0)), (2, .ref (A 8)), (1, .ref (A 22)), (0, .ref (eXa E))] [] h1 k n PP X) : G E m_LAW 1983 [(4, .int (nI j)), (3, .ref (A 0)), (2, .ref (A 8)), (1, .ref (A 22)), (0, .ref (eXa E))] [] h k n PP X := by
  refine g_aload_n (pc := 1983) d_LAW_1983 rfl 3 rfl ?_
  refine g_callV (k := k) (n := n) (kz := 0) (nz := 0) (pc := 1984) (ci := 0) (As := []) d_LAW_1984 rfl mv_HS_shopCount st_LAW_292 rfl rfl (by decide) k_x rfl rfl (Nat.le_of_ble_eq_true rfl) a (fun _ _ z => z.elim) (fun v h1 z => ?_)
  obtain ⟨z9, rfl, km, hm⟩ := z
  refine g_aload_n (pc := 1987) d_LAW_1987 rfl 2 rfl ?_
  refine g_callV (k := k) (n := n) (kz := 0) (nz := 0) (pc := 1988) (ci := 7) (As := []) d_LAW_1988 rfl mv_MO_shopCount st_LAW_295 rfl rfl (by decide) km rfl rfl (Nat.le_of_ble_eq_true rfl) hm (fun _ _ z => z.elim) (fun v h2 z => ?_)
  obtain ⟨rfl, L'⟩ := z
  refine g_icmp_eq (pc := 1991) (tgt := 3284) d_LAW_1991 (by decide) (fun _ => ?_) (fun q => absurd rfl q)
  exact kk _ L'
theorem lc_37 {E : En} {h : Hp} {A : Nat → Nat} {j c k n : Nat} {PP : Option Value → Hp → Prop} {X : String → Hp → Prop} (hl : eXl E < 2 ^ 31) (hj : j + 5 < eXl E) (k_x : hK h (A 22) = 1) (a : AnsD E m_HS_openShops m_MO_openShops [] h A c) (kk : ∀ h1, LOK h1 A (c + 1) → G E m_LAW 3284 [(4, .int (nI j)), (3, .ref (A 0)), (2, .ref (A 8)), (1, .ref (A 22)), (0, .ref (eXa E))] [] h1 k n PP X) : G E m_LAW 1996 [(4, .int (nI j)), (3, .ref (A 0)), (2, .ref (A 8)), (1, .ref (A 22)), (0, .ref (eXa E))] [] h k n PP X := by
  refine g_aload_n (pc := 1996) d_LAW_1996 rfl 3 rfl ?_
  refine g_callV (k := k) (n := n) (kz := 0) (nz := 0) (pc := 1997) (ci := 0) (As := []) d_LAW_1997 rfl mv_HS_openShops st_LAW_296 rfl rfl (by decide) k_x rfl rfl (Nat.le_of_ble_eq_true rfl) a (fun _ _ z => z.elim) (fun v h1 z => ?_)
  obtain ⟨z9, rfl, km, hm⟩ := z
  refine g_aload_n (pc := 2000) d_LAW_2000 rfl 2 rfl ?_
  refine g_callV (k := k) (n := n) (kz := 0) (nz := 0) (pc := 2001) (ci := 7) (As := []) d_LAW_2001 rfl mv_MO_openShops st_LAW_299 rfl rfl (by decide) km rfl rfl (Nat.le_of_ble_eq_true rfl) hm (fun _ _ z => z.elim) (fun v h2 z => ?_)
  obtain ⟨rfl, L'⟩ := z
  refine g_icmp_eq (pc := 2004) (tgt := 3284) d_LAW_2004 (by decide) (fun _ => ?_) (fun q => absurd rfl q)
  exact kk _ L'
theorem lc_38 {E : En} {h : Hp} {A : Nat → Nat} {j c k n : Nat} {PP : Option Value → Hp → Prop} {X : String → Hp → Prop} (hl : eXl E < 2 ^ 31) (hj : j + 5 < eXl E) (a : AnsW E m_LW_isOpen m_MO_isOpen fZ [.int (eXs E (j + 1))] h A c) (kk : ∀ h1, LOK h1 A (c + 1) → G E m_LAW 3284 [(4, .int (nI j)), (3, .ref (A 0)), (2, .ref (A 8)), (1, .ref (A 22)), (0, .ref (eXa E))] [] h1 k n PP X) : G E m_LAW 2009 [(4, .int (nI j)), (3, .ref (A 0)), (2, .ref (A 8)), (1, .ref (A 22)), (0, .ref (eXa E))] [] h (k + 11) (n + 156) PP X := by
  refine g_aload_n (pc := 2009) d_LAW_2009 rfl 3 rfl ?_
  refine g_aload_n (pc := 2010) d_LAW_2010 rfl 4 rfl ?_
  refine g_iload (pc := 2011) d_LAW_2011 0 rfl ?_
  refine g_iconst (pc := 2013) (v := 1) d_LAW_2013 (by decide) ?_
  refine g_iadd (pc := 2014) d_LAW_2014 ?_
  refine g_top (y := nI (j + 1)) (nI_add j 1) ?_
  refine g_sld (pc := 2015) (j := j + 1) (by omega) hl d_LAW_2015 ?_
  refine g_aload_n (pc := 2016) d_LAW_2016 rfl 1 rfl ?_
  refine g_callSX (k := k) (n := n) (kz := 11) (nz := 156) (pc := 2017) (As := [.ref _, .int _, .ref _]) d_LAW_2017 rfl mx_LW_isOpen st_LAW_300 rfl rfl (Nat.le_of_ble_eq_true rfl) a (fun _ _ z => z.elim) (fun v h1 z => ?_)
  obtain ⟨code, z, hcd, rfl, km, hz, hm⟩ := z
  refine g_istore (pc := 2020) (lv' := [(5, .int (nI code)), (4, .int (nI j)), (3, .ref (A 0)), (2, .ref (A 8)), (1, .ref (A 22)), (0, .ref (eXa E))]) d_LAW_2020 (by decide) rfl ?_
  refine g_aload_n (pc := 2022) d_LAW_2022 rfl 3 rfl ?_
  refine g_aload_n (pc := 2023) d_LAW_2023 rfl 5 rfl ?_
  refine g_iload (pc := 2024) d_LAW_2024 1 rfl ?_
  refine g_iconst (pc := 2026) (v := 1) d_LAW_2026 (by decide) ?_
  refine g_iadd (pc := 2027) d_LAW_2027 ?_
  refine g_top (y := nI (j + 1)) (nI_add j 1) ?_
  refine g_sld (pc := 2028) (j := j + 1) (by omega) hl d_LAW_2028 ?_
  refine g_callV (k := k) (n := n) (kz := 0) (nz := 0) (pc := 2029) (ci := 7) (As := [.int _]) d_LAW_2029 rfl mv_MO_isOpen st_LAW_302 rfl rfl (by decide) km rfl rfl (Nat.le_of_ble_eq_true rfl) hm (fun _ _ z => z.elim) (fun v h2 z => ?_)
  obtain ⟨yv, rfl, e17, hf, eJ, γ', s', L'⟩ := z
  refine g_istore (pc := 2032) (lv' := [(6, .int yv), (5, .int (nI code)), (4, .int (nI j)), (3, .ref (A 0)), (2, .ref (A 8)), (1, .ref (A 22)), (0, .ref (eXa E))]) d_LAW_2032 (by decide) rfl ?_
  refine g_aload_n (pc := 2034) d_LAW_2034 rfl 4 rfl ?_
  refine g_cV1 (pc := 2035) (ci := 7) (As := []) d_LAW_2035 rfl mv_MO_thrown st_LAW_171 rfl rfl (by decide) rfl rfl (Nat.le_of_ble_eq_true rfl) L'.1.2.1.1.1 (thr_ct L') ?_
  refine g_top e17 ?_
  refine g_iload (pc := 2038) d_LAW_2038 1 rfl ?_
  refine g_icmp_eq (pc := 2040) (tgt := 2045) d_LAW_2040 (by decide) (fun _ => ?_) (fun q => absurd rfl q)
  refine g_iload (pc := 2045) d_LAW_2045 1 rfl ?_
  refine g_if_ne (pc := 2047) (tgt := 2069) d_LAW_2047 (by decide) (fun q => ?_) (fun q => ?_)
  · skip
    refine g_goto (pc := 2069) (tgt := 3284) d_LAW_2069 (by decide) ?_
    refine g_perm [2, 3, 4, 5, 6] rfl ?_
    exact kk _ ⟨γ', s', L'⟩
  · have c0 := code0 hcd q
    refine g_aload_n (pc := 2050) d_LAW_2050 rfl 3 rfl ?_
    refine g_iconst (pc := 2051) (v := 0) d_LAW_2051 (by decide) ?_
    refine g_laload (pc := 2052) d_LAW_2052 L'.1.2.1.2.2.2.1 (z_vp L'.1.2.1.2.2.2.2) ?_
    refine g_iload (pc := 2053) d_LAW_2053 0 rfl ?_
    refine g_if_eq (pc := 2055) (tgt := 2062) d_LAW_2055 (by decide) (fun b0 => ?_) (fun b0 => ?_)
    · skip
      refine g_lconst (pc := 2062) (v := 0) d_LAW_2062 (by decide) ?_
      refine g_lcmp (pc := 2063) d_LAW_2063 ?_
      refine g_top (y := 0) (by
        show lg_cmp (hJ h2 (A 0) 0) 0 = 0
        rw [eJ, hz c0, ← hf c0]
        show lg_cmp (if yv = 0 then 0 else 1) 0 = 0
        rw [if_pos b0]
        exact lg_self _) ?_
      refine g_if_eq (pc := 2064) (tgt := 2069) d_LAW_2064 (by decide) (fun _ => ?_) (fun q => absurd rfl q)
      refine g_goto (pc := 2069) (tgt := 3284) d_LAW_2069 (by decide) ?_
      refine g_perm [2, 3, 4, 5, 6] rfl ?_
      exact kk _ ⟨γ', s', L'⟩
    · skip
      refine g_lconst (pc := 2058) (v := 1) d_LAW_2058 (by decide) ?_
      refine g_goto (pc := 2059) (tgt := 2063) d_LAW_2059 (by decide) ?_
      refine g_lcmp (pc := 2063) d_LAW_2063 ?_
      refine g_top (y := 0) (by
        show lg_cmp (hJ h2 (A 0) 0) 1 = 0
        rw [eJ, hz c0, ← hf c0]
        show lg_cmp (if yv = 0 then 0 else 1) 1 = 0
        rw [if_neg b0]
        exact lg_self _) ?_
      refine g_if_eq (pc := 2064) (tgt := 2069) d_LAW_2064 (by decide) (fun _ => ?_) (fun q => absurd rfl q)
      refine g_goto (pc := 2069) (tgt := 3284) d_LAW_2069 (by decide) ?_
      refine g_perm [2, 3, 4, 5, 6] rfl ?_
      exact kk _ ⟨γ', s', L'⟩
theorem lc_39 {E : En} {h : Hp} {A : Nat → Nat} {j c k n : Nat} {PP : Option Value → Hp → Prop} {X : String → Hp → Prop} (hl : eXl E < 2 ^ 31) (hj : j + 5 < eXl E) (a : AnsW E m_LW_purse m_MO_purse fI [.int (eXs E (j + 1))] h A c) (kk : ∀ h1, LOK h1 A (c + 1) → G E m_LAW 3284 [(4, .int (nI j)), (3, .ref (A 0)), (2, .ref (A 8)), (1, .ref (A 22)), (0, .ref (eXa E))] [] h1 k n PP X) : G E m_LAW 2072 [(4, .int (nI j)), (3, .ref (A 0)), (2, .ref (A 8)), (1, .ref (A 22)), (0, .ref (eXa E))] [] h (k + 11) (n + 156) PP X := by
  refine g_aload_n (pc := 2072) d_LAW_2072 rfl 3 rfl ?_
  refine g_aload_n (pc := 2073) d_LAW_2073 rfl 4 rfl ?_
  refine g_iload (pc := 2074) d_LAW_2074 0 rfl ?_
  refine g_iconst (pc := 2076) (v := 1) d_LAW_2076 (by decide) ?_
  refine g_iadd (pc := 2077) d_LAW_2077 ?_
  refine g_top (y := nI (j + 1)) (nI_add j 1) ?_
  refine g_sld (pc := 2078) (j := j + 1) (by omega) hl d_LAW_2078 ?_
  refine g_aload_n (pc := 2079) d_LAW_2079 rfl 1 rfl ?_
  refine g_callSX (k := k) (n := n) (kz := 11) (nz := 156) (pc := 2080) (As := [.ref _, .int _, .ref _]) d_LAW_2080 rfl mx_LW_purse st_LAW_303 rfl rfl (Nat.le_of_ble_eq_true rfl) a (fun _ _ z => z.elim) (fun v h1 z => ?_)
  obtain ⟨code, z, hcd, rfl, km, hz, hm⟩ := z
  refine g_istore (pc := 2083) (lv' := [(5, .int (nI code)), (4, .int (nI j)), (3, .ref (A 0)), (2, .ref (A 8)), (1, .ref (A 22)), (0, .ref (eXa E))]) d_LAW_2083 (by decide) rfl ?_
  refine g_aload_n (pc := 2085) d_LAW_2085 rfl 3 rfl ?_
  refine g_aload_n (pc := 2086) d_LAW_2086 rfl 5 rfl ?_
  refine g_iload (pc := 2087) d_LAW_2087 1 rfl ?_
  refine g_iconst (pc := 2089) (v := 1) d_LAW_2089 (by decide) ?_
  refine g_iadd (pc := 2090) d_LAW_2090 ?_
  refine g_top (y := nI (j + 1)) (nI_add j 1) ?_
  refine g_sld (pc := 2091) (j := j + 1) (by omega) hl d_LAW_2091 ?_
  refine g_callV (k := k) (n := n) (kz := 0) (nz := 0) (pc := 2092) (ci := 7) (As := [.int _]) d_LAW_2092 rfl mv_MO_purse st_LAW_305 rfl rfl (by decide) km rfl rfl (Nat.le_of_ble_eq_true rfl) hm (fun _ _ z => z.elim) (fun v h2 z => ?_)
  obtain ⟨yv, rfl, e17, hf, eJ, γ', s', L'⟩ := z
  refine g_istore (pc := 2095) (lv' := [(6, .int yv), (5, .int (nI code)), (4, .int (nI j)), (3, .ref (A 0)), (2, .ref (A 8)), (1, .ref (A 22)), (0, .ref (eXa E))]) d_LAW_2095 (by decide) rfl ?_
  refine g_aload_n (pc := 2097) d_LAW_2097 rfl 4 rfl ?_
  refine g_cV1 (pc := 2098) (ci := 7) (As := []) d_LAW_2098 rfl mv_MO_thrown st_LAW_171 rfl rfl (by decide) rfl rfl (Nat.le_of_ble_eq_true rfl) L'.1.2.1.1.1 (thr_ct L') ?_
  refine g_top e17 ?_
  refine g_iload (pc := 2101) d_LAW_2101 1 rfl ?_
  refine g_icmp_eq (pc := 2103) (tgt := 2108) d_LAW_2103 (by decide) (fun _ => ?_) (fun q => absurd rfl q)
  refine g_iload (pc := 2108) d_LAW_2108 1 rfl ?_
  refine g_if_ne (pc := 2110) (tgt := 2125) d_LAW_2110 (by decide) (fun q => ?_) (fun q => ?_)
  · skip
    refine g_goto (pc := 2125) (tgt := 3284) d_LAW_2125 (by decide) ?_
    refine g_perm [2, 3, 4, 5, 6] rfl ?_
    exact kk _ ⟨γ', s', L'⟩
  · have c0 := code0 hcd q
    refine g_aload_n (pc := 2113) d_LAW_2113 rfl 3 rfl ?_
    refine g_iconst (pc := 2114) (v := 0) d_LAW_2114 (by decide) ?_
    refine g_laload (pc := 2115) d_LAW_2115 L'.1.2.1.2.2.2.1 (z_vp L'.1.2.1.2.2.2.2) ?_
    refine g_iload (pc := 2116) d_LAW_2116 0 rfl ?_
    refine g_i2l (pc := 2118) d_LAW_2118 ?_
    refine g_lcmp (pc := 2119) d_LAW_2119 ?_
    refine g_top (y := 0) (by
      show lg_cmp (hJ h2 (A 0) 0) yv.toInt64 = 0
      rw [eJ, hz c0, ← hf c0]
      exact lg_self _) ?_
    refine g_if_eq (pc := 2120) (tgt := 2125) d_LAW_2120 (by decide) (fun _ => ?_) (fun q => absurd rfl q)
    refine g_goto (pc := 2125) (tgt := 3284) d_LAW_2125 (by decide) ?_
    refine g_perm [2, 3, 4, 5, 6] rfl ?_
    exact kk _ ⟨γ', s', L'⟩
theorem lc_40 {E : En} {h : Hp} {A : Nat → Nat} {j c k n : Nat} {PP : Option Value → Hp → Prop} {X : String → Hp → Prop} (hl : eXl E < 2 ^ 31) (hj : j + 5 < eXl E) (a : AnsW E m_LW_thumb m_MO_thumb fI [.int (eXs E (j + 1))] h A c) (kk : ∀ h1, LOK h1 A (c + 1) → G E m_LAW 3284 [(4, .int (nI j)), (3, .ref (A 0)), (2, .ref (A 8)), (1, .ref (A 22)), (0, .ref (eXa E))] [] h1 k n PP X) : G E m_LAW 2128 [(4, .int (nI j)), (3, .ref (A 0)), (2, .ref (A 8)), (1, .ref (A 22)), (0, .ref (eXa E))] [] h (k + 11) (n + 156) PP X := by
  refine g_aload_n (pc := 2128) d_LAW_2128 rfl 3 rfl ?_
  refine g_aload_n (pc := 2129) d_LAW_2129 rfl 4 rfl ?_
  refine g_iload (pc := 2130) d_LAW_2130 0 rfl ?_
  refine g_iconst (pc := 2132) (v := 1) d_LAW_2132 (by decide) ?_
  refine g_iadd (pc := 2133) d_LAW_2133 ?_
  refine g_top (y := nI (j + 1)) (nI_add j 1) ?_
  refine g_sld (pc := 2134) (j := j + 1) (by omega) hl d_LAW_2134 ?_
  refine g_aload_n (pc := 2135) d_LAW_2135 rfl 1 rfl ?_
  refine g_callSX (k := k) (n := n) (kz := 11) (nz := 156) (pc := 2136) (As := [.ref _, .int _, .ref _]) d_LAW_2136 rfl mx_LW_thumb st_LAW_306 rfl rfl (Nat.le_of_ble_eq_true rfl) a (fun _ _ z => z.elim) (fun v h1 z => ?_)
  obtain ⟨code, z, hcd, rfl, km, hz, hm⟩ := z
  refine g_istore (pc := 2139) (lv' := [(5, .int (nI code)), (4, .int (nI j)), (3, .ref (A 0)), (2, .ref (A 8)), (1, .ref (A 22)), (0, .ref (eXa E))]) d_LAW_2139 (by decide) rfl ?_
  refine g_aload_n (pc := 2141) d_LAW_2141 rfl 3 rfl ?_
  refine g_aload_n (pc := 2142) d_LAW_2142 rfl 5 rfl ?_
  refine g_iload (pc := 2143) d_LAW_2143 1 rfl ?_
  refine g_iconst (pc := 2145) (v := 1) d_LAW_2145 (by decide) ?_
  refine g_iadd (pc := 2146) d_LAW_2146 ?_
  refine g_top (y := nI (j + 1)) (nI_add j 1) ?_
  refine g_sld (pc := 2147) (j := j + 1) (by omega) hl d_LAW_2147 ?_
  refine g_callV (k := k) (n := n) (kz := 0) (nz := 0) (pc := 2148) (ci := 7) (As := [.int _]) d_LAW_2148 rfl mv_MO_thumb st_LAW_308 rfl rfl (by decide) km rfl rfl (Nat.le_of_ble_eq_true rfl) hm (fun _ _ z => z.elim) (fun v h2 z => ?_)
  obtain ⟨yv, rfl, e17, hf, eJ, γ', s', L'⟩ := z
  refine g_istore (pc := 2151) (lv' := [(6, .int yv), (5, .int (nI code)), (4, .int (nI j)), (3, .ref (A 0)), (2, .ref (A 8)), (1, .ref (A 22)), (0, .ref (eXa E))]) d_LAW_2151 (by decide) rfl ?_
  refine g_aload_n (pc := 2153) d_LAW_2153 rfl 4 rfl ?_
  refine g_cV1 (pc := 2154) (ci := 7) (As := []) d_LAW_2154 rfl mv_MO_thrown st_LAW_171 rfl rfl (by decide) rfl rfl (Nat.le_of_ble_eq_true rfl) L'.1.2.1.1.1 (thr_ct L') ?_
  refine g_top e17 ?_
  refine g_iload (pc := 2157) d_LAW_2157 1 rfl ?_
  refine g_icmp_eq (pc := 2159) (tgt := 2164) d_LAW_2159 (by decide) (fun _ => ?_) (fun q => absurd rfl q)
  refine g_iload (pc := 2164) d_LAW_2164 1 rfl ?_
  refine g_if_ne (pc := 2166) (tgt := 2181) d_LAW_2166 (by decide) (fun q => ?_) (fun q => ?_)
  · skip
    refine g_goto (pc := 2181) (tgt := 3284) d_LAW_2181 (by decide) ?_
    refine g_perm [2, 3, 4, 5, 6] rfl ?_
    exact kk _ ⟨γ', s', L'⟩
  · have c0 := code0 hcd q
    refine g_aload_n (pc := 2169) d_LAW_2169 rfl 3 rfl ?_
    refine g_iconst (pc := 2170) (v := 0) d_LAW_2170 (by decide) ?_
    refine g_laload (pc := 2171) d_LAW_2171 L'.1.2.1.2.2.2.1 (z_vp L'.1.2.1.2.2.2.2) ?_
    refine g_iload (pc := 2172) d_LAW_2172 0 rfl ?_
    refine g_i2l (pc := 2174) d_LAW_2174 ?_
    refine g_lcmp (pc := 2175) d_LAW_2175 ?_
    refine g_top (y := 0) (by
      show lg_cmp (hJ h2 (A 0) 0) yv.toInt64 = 0
      rw [eJ, hz c0, ← hf c0]
      exact lg_self _) ?_
    refine g_if_eq (pc := 2176) (tgt := 2181) d_LAW_2176 (by decide) (fun _ => ?_) (fun q => absurd rfl q)
    refine g_goto (pc := 2181) (tgt := 3284) d_LAW_2181 (by decide) ?_
    refine g_perm [2, 3, 4, 5, 6] rfl ?_
    exact kk _ ⟨γ', s', L'⟩
theorem lc_41 {E : En} {h : Hp} {A : Nat → Nat} {j c k n : Nat} {PP : Option Value → Hp → Prop} {X : String → Hp → Prop} (hl : eXl E < 2 ^ 31) (hj : j + 5 < eXl E) (a : AnsW E m_LW_complaints m_MO_complaints fI [.int (eXs E (j + 1))] h A c) (kk : ∀ h1, LOK h1 A (c + 1) → G E m_LAW 3284 [(4, .int (nI j)), (3, .ref (A 0)), (2, .ref (A 8)), (1, .ref (A 22)), (0, .ref (eXa E))] [] h1 k n PP X) : G E m_LAW 2184 [(4, .int (nI j)), (3, .ref (A 0)), (2, .ref (A 8)), (1, .ref (A 22)), (0, .ref (eXa E))] [] h (k + 11) (n + 156) PP X := by
  refine g_aload_n (pc := 2184) d_LAW_2184 rfl 3 rfl ?_
  refine g_aload_n (pc := 2185) d_LAW_2185 rfl 4 rfl ?_
  refine g_iload (pc := 2186) d_LAW_2186 0 rfl ?_
  refine g_iconst (pc := 2188) (v := 1) d_LAW_2188 (by decide) ?_
  refine g_iadd (pc := 2189) d_LAW_2189 ?_
  refine g_top (y := nI (j + 1)) (nI_add j 1) ?_
  refine g_sld (pc := 2190) (j := j + 1) (by omega) hl d_LAW_2190 ?_
  refine g_aload_n (pc := 2191) d_LAW_2191 rfl 1 rfl ?_
  refine g_callSX (k := k) (n := n) (kz := 11) (nz := 156) (pc := 2192) (As := [.ref _, .int _, .ref _]) d_LAW_2192 rfl mx_LW_complaints st_LAW_309 rfl rfl (Nat.le_of_ble_eq_true rfl) a (fun _ _ z => z.elim) (fun v h1 z => ?_)
  obtain ⟨code, z, hcd, rfl, km, hz, hm⟩ := z
  refine g_istore (pc := 2195) (lv' := [(5, .int (nI code)), (4, .int (nI j)), (3, .ref (A 0)), (2, .ref (A 8)), (1, .ref (A 22)), (0, .ref (eXa E))]) d_LAW_2195 (by decide) rfl ?_
  refine g_aload_n (pc := 2197) d_LAW_2197 rfl 3 rfl ?_
  refine g_aload_n (pc := 2198) d_LAW_2198 rfl 5 rfl ?_
  refine g_iload (pc := 2199) d_LAW_2199 1 rfl ?_
  refine g_iconst (pc := 2201) (v := 1) d_LAW_2201 (by decide) ?_
  refine g_iadd (pc := 2202) d_LAW_2202 ?_
  refine g_top (y := nI (j + 1)) (nI_add j 1) ?_
  refine g_sld (pc := 2203) (j := j + 1) (by omega) hl d_LAW_2203 ?_
  refine g_callV (k := k) (n := n) (kz := 0) (nz := 0) (pc := 2204) (ci := 7) (As := [.int _]) d_LAW_2204 rfl mv_MO_complaints st_LAW_311 rfl rfl (by decide) km rfl rfl (Nat.le_of_ble_eq_true rfl) hm (fun _ _ z => z.elim) (fun v h2 z => ?_)
  obtain ⟨yv, rfl, e17, hf, eJ, γ', s', L'⟩ := z
  refine g_istore (pc := 2207) (lv' := [(6, .int yv), (5, .int (nI code)), (4, .int (nI j)), (3, .ref (A 0)), (2, .ref (A 8)), (1, .ref (A 22)), (0, .ref (eXa E))]) d_LAW_2207 (by decide) rfl ?_
  refine g_aload_n (pc := 2209) d_LAW_2209 rfl 4 rfl ?_
  refine g_cV1 (pc := 2210) (ci := 7) (As := []) d_LAW_2210 rfl mv_MO_thrown st_LAW_171 rfl rfl (by decide) rfl rfl (Nat.le_of_ble_eq_true rfl) L'.1.2.1.1.1 (thr_ct L') ?_
  refine g_top e17 ?_
  refine g_iload (pc := 2213) d_LAW_2213 1 rfl ?_
  refine g_icmp_eq (pc := 2215) (tgt := 2220) d_LAW_2215 (by decide) (fun _ => ?_) (fun q => absurd rfl q)
  refine g_iload (pc := 2220) d_LAW_2220 1 rfl ?_
  refine g_if_ne (pc := 2222) (tgt := 2237) d_LAW_2222 (by decide) (fun q => ?_) (fun q => ?_)
  · skip
    refine g_goto (pc := 2237) (tgt := 3284) d_LAW_2237 (by decide) ?_
    refine g_perm [2, 3, 4, 5, 6] rfl ?_
    exact kk _ ⟨γ', s', L'⟩
  · have c0 := code0 hcd q
    refine g_aload_n (pc := 2225) d_LAW_2225 rfl 3 rfl ?_
    refine g_iconst (pc := 2226) (v := 0) d_LAW_2226 (by decide) ?_
    refine g_laload (pc := 2227) d_LAW_2227 L'.1.2.1.2.2.2.1 (z_vp L'.1.2.1.2.2.2.2) ?_
    refine g_iload (pc := 2228) d_LAW_2228 0 rfl ?_
    refine g_i2l (pc := 2230) d_LAW_2230 ?_
    refine g_lcmp (pc := 2231) d_LAW_2231 ?_
    refine g_top (y := 0) (by
      show lg_cmp (hJ h2 (A 0) 0) yv.toInt64 = 0
      rw [eJ, hz c0, ← hf c0]
      exact lg_self _) ?_
    refine g_if_eq (pc := 2232) (tgt := 2237) d_LAW_2232 (by decide) (fun _ => ?_) (fun q => absurd rfl q)
    refine g_goto (pc := 2237) (tgt := 3284) d_LAW_2237 (by decide) ?_
    refine g_perm [2, 3, 4, 5, 6] rfl ?_
    exact kk _ ⟨γ', s', L'⟩
theorem lc_42 {E : En} {h : Hp} {A : Nat → Nat} {j c k n : Nat} {PP : Option Value → Hp → Prop} {X : String → Hp → Prop} (hl : eXl E < 2 ^ 31) (hj : j + 5 < eXl E) (a : AnsW E m_LW_failures m_MO_failures fI [.int (eXs E (j + 1))] h A c) (kk : ∀ h1, LOK h1 A (c + 1) → G E m_LAW 3284 [(4, .int (nI j)), (3, .ref (A 0)), (2, .ref (A 8)), (1, .ref (A 22)), (0, .ref (eXa E))] [] h1 k n PP X) : G E m_LAW 2240 [(4, .int (nI j)), (3, .ref (A 0)), (2, .ref (A 8)), (1, .ref (A 22)), (0, .ref (eXa E))] [] h (k + 11) (n + 156) PP X := by
  refine g_aload_n (pc := 2240) d_LAW_2240 rfl 3 rfl ?_
  refine g_aload_n (pc := 2241) d_LAW_2241 rfl 4 rfl ?_
  refine g_iload (pc := 2242) d_LAW_2242 0 rfl ?_
  refine g_iconst (pc := 2244) (v := 1) d_LAW_2244 (by decide) ?_
  refine g_iadd (pc := 2245) d_LAW_2245 ?_
  refine g_top (y := nI (j + 1)) (nI_add j 1) ?_
  refine g_sld (pc := 2246) (j := j + 1) (by omega) hl d_LAW_2246 ?_
  refine g_aload_n (pc := 2247) d_LAW_2247 rfl 1 rfl ?_
  refine g_callSX (k := k) (n := n) (kz := 11) (nz := 156) (pc := 2248) (As := [.ref _, .int _, .ref _]) d_LAW_2248 rfl mx_LW_failures st_LAW_312 rfl rfl (Nat.le_of_ble_eq_true rfl) a (fun _ _ z => z.elim) (fun v h1 z => ?_)
  obtain ⟨code, z, hcd, rfl, km, hz, hm⟩ := z
  refine g_istore (pc := 2251) (lv' := [(5, .int (nI code)), (4, .int (nI j)), (3, .ref (A 0)), (2, .ref (A 8)), (1, .ref (A 22)), (0, .ref (eXa E))]) d_LAW_2251 (by decide) rfl ?_
  refine g_aload_n (pc := 2253) d_LAW_2253 rfl 3 rfl ?_
  refine g_aload_n (pc := 2254) d_LAW_2254 rfl 5 rfl ?_
  refine g_iload (pc := 2255) d_LAW_2255 1 rfl ?_
  refine g_iconst (pc := 2257) (v := 1) d_LAW_2257 (by decide) ?_
  refine g_iadd (pc := 2258) d_LAW_2258 ?_
  refine g_top (y := nI (j + 1)) (nI_add j 1) ?_
  refine g_sld (pc := 2259) (j := j + 1) (by omega) hl d_LAW_2259 ?_
  refine g_callV (k := k) (n := n) (kz := 0) (nz := 0) (pc := 2260) (ci := 7) (As := [.int _]) d_LAW_2260 rfl mv_MO_failures st_LAW_314 rfl rfl (by decide) km rfl rfl (Nat.le_of_ble_eq_true rfl) hm (fun _ _ z => z.elim) (fun v h2 z => ?_)
  obtain ⟨yv, rfl, e17, hf, eJ, γ', s', L'⟩ := z
  refine g_istore (pc := 2263) (lv' := [(6, .int yv), (5, .int (nI code)), (4, .int (nI j)), (3, .ref (A 0)), (2, .ref (A 8)), (1, .ref (A 22)), (0, .ref (eXa E))]) d_LAW_2263 (by decide) rfl ?_
  refine g_aload_n (pc := 2265) d_LAW_2265 rfl 4 rfl ?_
  refine g_cV1 (pc := 2266) (ci := 7) (As := []) d_LAW_2266 rfl mv_MO_thrown st_LAW_171 rfl rfl (by decide) rfl rfl (Nat.le_of_ble_eq_true rfl) L'.1.2.1.1.1 (thr_ct L') ?_
  refine g_top e17 ?_
  refine g_iload (pc := 2269) d_LAW_2269 1 rfl ?_
  refine g_icmp_eq (pc := 2271) (tgt := 2276) d_LAW_2271 (by decide) (fun _ => ?_) (fun q => absurd rfl q)
  refine g_iload (pc := 2276) d_LAW_2276 1 rfl ?_
  refine g_if_ne (pc := 2278) (tgt := 2293) d_LAW_2278 (by decide) (fun q => ?_) (fun q => ?_)
  · skip
    refine g_goto (pc := 2293) (tgt := 3284) d_LAW_2293 (by decide) ?_
    refine g_perm [2, 3, 4, 5, 6] rfl ?_
    exact kk _ ⟨γ', s', L'⟩
  · have c0 := code0 hcd q
    refine g_aload_n (pc := 2281) d_LAW_2281 rfl 3 rfl ?_
    refine g_iconst (pc := 2282) (v := 0) d_LAW_2282 (by decide) ?_
    refine g_laload (pc := 2283) d_LAW_2283 L'.1.2.1.2.2.2.1 (z_vp L'.1.2.1.2.2.2.2) ?_
    refine g_iload (pc := 2284) d_LAW_2284 0 rfl ?_
    refine g_i2l (pc := 2286) d_LAW_2286 ?_
    refine g_lcmp (pc := 2287) d_LAW_2287 ?_
    refine g_top (y := 0) (by
      show lg_cmp (hJ h2 (A 0) 0) yv.toInt64 = 0
      rw [eJ, hz c0, ← hf c0]
      exact lg_self _) ?_
    refine g_if_eq (pc := 2288) (tgt := 2293) d_LAW_2288 (by decide) (fun _ => ?_) (fun q => absurd rfl q)
    refine g_goto (pc := 2293) (tgt := 3284) d_LAW_2293 (by decide) ?_
    refine g_perm [2, 3, 4, 5, 6] rfl ?_
    exact kk _ ⟨γ', s', L'⟩
theorem lc_43 {E : En} {h : Hp} {A : Nat → Nat} {j c k n : Nat} {PP : Option Value → Hp → Prop} {X : String → Hp → Prop} (hl : eXl E < 2 ^ 31) (hj : j + 5 < eXl E) (a : AnsW E m_LW_latestVisit m_MO_latestVisit fI [.int (eXs E (j + 1))] h A c) (kk : ∀ h1, LOK h1 A (c + 1) → G E m_LAW 3284 [(4, .int (nI j)), (3, .ref (A 0)), (2, .ref (A 8)), (1, .ref (A 22)), (0, .ref (eXa E))] [] h1 k n PP X) : G E m_LAW 2296 [(4, .int (nI j)), (3, .ref (A 0)), (2, .ref (A 8)), (1, .ref (A 22)), (0, .ref (eXa E))] [] h (k + 11) (n + 156) PP X := by
  refine g_aload_n (pc := 2296) d_LAW_2296 rfl 3 rfl ?_
  refine g_aload_n (pc := 2297) d_LAW_2297 rfl 4 rfl ?_
  refine g_iload (pc := 2298) d_LAW_2298 0 rfl ?_
  refine g_iconst (pc := 2300) (v := 1) d_LAW_2300 (by decide) ?_
  refine g_iadd (pc := 2301) d_LAW_2301 ?_
  refine g_top (y := nI (j + 1)) (nI_add j 1) ?_
  refine g_sld (pc := 2302) (j := j + 1) (by omega) hl d_LAW_2302 ?_
  refine g_aload_n (pc := 2303) d_LAW_2303 rfl 1 rfl ?_
  refine g_callSX (k := k) (n := n) (kz := 11) (nz := 156) (pc := 2304) (As := [.ref _, .int _, .ref _]) d_LAW_2304 rfl mx_LW_latestVisit st_LAW_315 rfl rfl (Nat.le_of_ble_eq_true rfl) a (fun _ _ z => z.elim) (fun v h1 z => ?_)
  obtain ⟨code, z, hcd, rfl, km, hz, hm⟩ := z
  refine g_istore (pc := 2307) (lv' := [(5, .int (nI code)), (4, .int (nI j)), (3, .ref (A 0)), (2, .ref (A 8)), (1, .ref (A 22)), (0, .ref (eXa E))]) d_LAW_2307 (by decide) rfl ?_
  refine g_aload_n (pc := 2309) d_LAW_2309 rfl 3 rfl ?_
  refine g_aload_n (pc := 2310) d_LAW_2310 rfl 5 rfl ?_
  refine g_iload (pc := 2311) d_LAW_2311 1 rfl ?_
  refine g_iconst (pc := 2313) (v := 1) d_LAW_2313 (by decide) ?_
  refine g_iadd (pc := 2314) d_LAW_2314 ?_
  refine g_top (y := nI (j + 1)) (nI_add j 1) ?_
  refine g_sld (pc := 2315) (j := j + 1) (by omega) hl d_LAW_2315 ?_
  refine g_callV (k := k) (n := n) (kz := 0) (nz := 0) (pc := 2316) (ci := 7) (As := [.int _]) d_LAW_2316 rfl mv_MO_latestVisit st_LAW_317 rfl rfl (by decide) km rfl rfl (Nat.le_of_ble_eq_true rfl) hm (fun _ _ z => z.elim) (fun v h2 z => ?_)
  obtain ⟨yv, rfl, e17, hf, eJ, γ', s', L'⟩ := z
  refine g_istore (pc := 2319) (lv' := [(6, .int yv), (5, .int (nI code)), (4, .int (nI j)), (3, .ref (A 0)), (2, .ref (A 8)), (1, .ref (A 22)), (0, .ref (eXa E))]) d_LAW_2319 (by decide) rfl ?_
  refine g_aload_n (pc := 2321) d_LAW_2321 rfl 4 rfl ?_
  refine g_cV1 (pc := 2322) (ci := 7) (As := []) d_LAW_2322 rfl mv_MO_thrown st_LAW_171 rfl rfl (by decide) rfl rfl (Nat.le_of_ble_eq_true rfl) L'.1.2.1.1.1 (thr_ct L') ?_
  refine g_top e17 ?_
  refine g_iload (pc := 2325) d_LAW_2325 1 rfl ?_
  refine g_icmp_eq (pc := 2327) (tgt := 2332) d_LAW_2327 (by decide) (fun _ => ?_) (fun q => absurd rfl q)
  refine g_iload (pc := 2332) d_LAW_2332 1 rfl ?_
  refine g_if_ne (pc := 2334) (tgt := 2349) d_LAW_2334 (by decide) (fun q => ?_) (fun q => ?_)
  · skip
    refine g_goto (pc := 2349) (tgt := 3284) d_LAW_2349 (by decide) ?_
    refine g_perm [2, 3, 4, 5, 6] rfl ?_
    exact kk _ ⟨γ', s', L'⟩
  · have c0 := code0 hcd q
    refine g_aload_n (pc := 2337) d_LAW_2337 rfl 3 rfl ?_
    refine g_iconst (pc := 2338) (v := 0) d_LAW_2338 (by decide) ?_
    refine g_laload (pc := 2339) d_LAW_2339 L'.1.2.1.2.2.2.1 (z_vp L'.1.2.1.2.2.2.2) ?_
    refine g_iload (pc := 2340) d_LAW_2340 0 rfl ?_
    refine g_i2l (pc := 2342) d_LAW_2342 ?_
    refine g_lcmp (pc := 2343) d_LAW_2343 ?_
    refine g_top (y := 0) (by
      show lg_cmp (hJ h2 (A 0) 0) yv.toInt64 = 0
      rw [eJ, hz c0, ← hf c0]
      exact lg_self _) ?_
    refine g_if_eq (pc := 2344) (tgt := 2349) d_LAW_2344 (by decide) (fun _ => ?_) (fun q => absurd rfl q)
    refine g_goto (pc := 2349) (tgt := 3284) d_LAW_2349 (by decide) ?_
    refine g_perm [2, 3, 4, 5, 6] rfl ?_
    exact kk _ ⟨γ', s', L'⟩
theorem lc_44 {E : En} {h : Hp} {A : Nat → Nat} {j c k n : Nat} {PP : Option Value → Hp → Prop} {X : String → Hp → Prop} (hl : eXl E < 2 ^ 31) (hj : j + 5 < eXl E) (a : AnsW E m_LW_finesOf m_MO_finesOf fI [.int (eXs E (j + 1))] h A c) (kk : ∀ h1, LOK h1 A (c + 1) → G E m_LAW 3284 [(4, .int (nI j)), (3, .ref (A 0)), (2, .ref (A 8)), (1, .ref (A 22)), (0, .ref (eXa E))] [] h1 k n PP X) : G E m_LAW 2352 [(4, .int (nI j)), (3, .ref (A 0)), (2, .ref (A 8)), (1, .ref (A 22)), (0, .ref (eXa E))] [] h (k + 11) (n + 156) PP X := by
  refine g_aload_n (pc := 2352) d_LAW_2352 rfl 3 rfl ?_
  refine g_aload_n (pc := 2353) d_LAW_2353 rfl 4 rfl ?_
  refine g_iload (pc := 2354) d_LAW_2354 0 rfl ?_
  refine g_iconst (pc := 2356) (v := 1) d_LAW_2356 (by decide) ?_
  refine g_iadd (pc := 2357) d_LAW_2357 ?_
  refine g_top (y := nI (j + 1)) (nI_add j 1) ?_
  refine g_sld (pc := 2358) (j := j + 1) (by omega) hl d_LAW_2358 ?_
  refine g_aload_n (pc := 2359) d_LAW_2359 rfl 1 rfl ?_
  refine g_callSX (k := k) (n := n) (kz := 11) (nz := 156) (pc := 2360) (As := [.ref _, .int _, .ref _]) d_LAW_2360 rfl mx_LW_finesOf st_LAW_318 rfl rfl (Nat.le_of_ble_eq_true rfl) a (fun _ _ z => z.elim) (fun v h1 z => ?_)
  obtain ⟨code, z, hcd, rfl, km, hz, hm⟩ := z
  refine g_istore (pc := 2363) (lv' := [(5, .int (nI code)), (4, .int (nI j)), (3, .ref (A 0)), (2, .ref (A 8)), (1, .ref (A 22)), (0, .ref (eXa E))]) d_LAW_2363 (by decide) rfl ?_
  refine g_aload_n (pc := 2365) d_LAW_2365 rfl 3 rfl ?_
  refine g_aload_n (pc := 2366) d_LAW_2366 rfl 5 rfl ?_
  refine g_iload (pc := 2367) d_LAW_2367 1 rfl ?_
  refine g_iconst (pc := 2369) (v := 1) d_LAW_2369 (by decide) ?_
  refine g_iadd (pc := 2370) d_LAW_2370 ?_
  refine g_top (y := nI (j + 1)) (nI_add j 1) ?_
  refine g_sld (pc := 2371) (j := j + 1) (by omega) hl d_LAW_2371 ?_
  refine g_callV (k := k) (n := n) (kz := 0) (nz := 0) (pc := 2372) (ci := 7) (As := [.int _]) d_LAW_2372 rfl mv_MO_finesOf st_LAW_320 rfl rfl (by decide) km rfl rfl (Nat.le_of_ble_eq_true rfl) hm (fun _ _ z => z.elim) (fun v h2 z => ?_)
  obtain ⟨yv, rfl, e17, hf, eJ, γ', s', L'⟩ := z
  refine g_istore (pc := 2375) (lv' := [(6, .int yv), (5, .int (nI code)), (4, .int (nI j)), (3, .ref (A 0)), (2, .ref (A 8)), (1, .ref (A 22)), (0, .ref (eXa E))]) d_LAW_2375 (by decide) rfl ?_
  refine g_aload_n (pc := 2377) d_LAW_2377 rfl 4 rfl ?_
  refine g_cV1 (pc := 2378) (ci := 7) (As := []) d_LAW_2378 rfl mv_MO_thrown st_LAW_171 rfl rfl (by decide) rfl rfl (Nat.le_of_ble_eq_true rfl) L'.1.2.1.1.1 (thr_ct L') ?_
  refine g_top e17 ?_
  refine g_iload (pc := 2381) d_LAW_2381 1 rfl ?_
  refine g_icmp_eq (pc := 2383) (tgt := 2388) d_LAW_2383 (by decide) (fun _ => ?_) (fun q => absurd rfl q)
  refine g_iload (pc := 2388) d_LAW_2388 1 rfl ?_
  refine g_if_ne (pc := 2390) (tgt := 2405) d_LAW_2390 (by decide) (fun q => ?_) (fun q => ?_)
  · skip
    refine g_goto (pc := 2405) (tgt := 3284) d_LAW_2405 (by decide) ?_
    refine g_perm [2, 3, 4, 5, 6] rfl ?_
    exact kk _ ⟨γ', s', L'⟩
  · have c0 := code0 hcd q
    refine g_aload_n (pc := 2393) d_LAW_2393 rfl 3 rfl ?_
    refine g_iconst (pc := 2394) (v := 0) d_LAW_2394 (by decide) ?_
    refine g_laload (pc := 2395) d_LAW_2395 L'.1.2.1.2.2.2.1 (z_vp L'.1.2.1.2.2.2.2) ?_
    refine g_iload (pc := 2396) d_LAW_2396 0 rfl ?_
    refine g_i2l (pc := 2398) d_LAW_2398 ?_
    refine g_lcmp (pc := 2399) d_LAW_2399 ?_
    refine g_top (y := 0) (by
      show lg_cmp (hJ h2 (A 0) 0) yv.toInt64 = 0
      rw [eJ, hz c0, ← hf c0]
      exact lg_self _) ?_
    refine g_if_eq (pc := 2400) (tgt := 2405) d_LAW_2400 (by decide) (fun _ => ?_) (fun q => absurd rfl q)
    refine g_goto (pc := 2405) (tgt := 3284) d_LAW_2405 (by decide) ?_
    refine g_perm [2, 3, 4, 5, 6] rfl ?_
    exact kk _ ⟨γ', s', L'⟩
theorem lc_45 {E : En} {h : Hp} {A : Nat → Nat} {j c k n : Nat} {PP : Option Value → Hp → Prop} {X : String → Hp → Prop} (hl : eXl E < 2 ^ 31) (hj : j + 5 < eXl E) (a : AnsW E m_LW_gainsOf m_MO_gainsOf fI [.int (eXs E (j + 1))] h A c) (kk : ∀ h1, LOK h1 A (c + 1) → G E m_LAW 3284 [(4, .int (nI j)), (3, .ref (A 0)), (2, .ref (A 8)), (1, .ref (A 22)), (0, .ref (eXa E))] [] h1 k n PP X) : G E m_LAW 2408 [(4, .int (nI j)), (3, .ref (A 0)), (2, .ref (A 8)), (1, .ref (A 22)), (0, .ref (eXa E))] [] h (k + 11) (n + 156) PP X := by
  refine g_aload_n (pc := 2408) d_LAW_2408 rfl 3 rfl ?_
  refine g_aload_n (pc := 2409) d_LAW_2409 rfl 4 rfl ?_
  refine g_iload (pc := 2410) d_LAW_2410 0 rfl ?_
  refine g_iconst (pc := 2412) (v := 1) d_LAW_2412 (by decide) ?_
  refine g_iadd (pc := 2413) d_LAW_2413 ?_
  refine g_top (y := nI (j + 1)) (nI_add j 1) ?_
  refine g_sld (pc := 2414) (j := j + 1) (by omega) hl d_LAW_2414 ?_
  refine g_aload_n (pc := 2415) d_LAW_2415 rfl 1 rfl ?_
  refine g_callSX (k := k) (n := n) (kz := 11) (nz := 156) (pc := 2416) (As := [.ref _, .int _, .ref _]) d_LAW_2416 rfl mx_LW_gainsOf st_LAW_321 rfl rfl (Nat.le_of_ble_eq_true rfl) a (fun _ _ z => z.elim) (fun v h1 z => ?_)
  obtain ⟨code, z, hcd, rfl, km, hz, hm⟩ := z
  refine g_istore (pc := 2419) (lv' := [(5, .int (nI code)), (4, .int (nI j)), (3, .ref (A 0)), (2, .ref (A 8)), (1, .ref (A 22)), (0, .ref (eXa E))]) d_LAW_2419 (by decide) rfl ?_
  refine g_aload_n (pc := 2421) d_LAW_2421 rfl 3 rfl ?_
  refine g_aload_n (pc := 2422) d_LAW_2422 rfl 5 rfl ?_
  refine g_iload (pc := 2423) d_LAW_2423 1 rfl ?_
  refine g_iconst (pc := 2425) (v := 1) d_LAW_2425 (by decide) ?_
  refine g_iadd (pc := 2426) d_LAW_2426 ?_
  refine g_top (y := nI (j + 1)) (nI_add j 1) ?_
  refine g_sld (pc := 2427) (j := j + 1) (by omega) hl d_LAW_2427 ?_
  refine g_callV (k := k) (n := n) (kz := 0) (nz := 0) (pc := 2428) (ci := 7) (As := [.int _]) d_LAW_2428 rfl mv_MO_gainsOf st_LAW_323 rfl rfl (by decide) km rfl rfl (Nat.le_of_ble_eq_true rfl) hm (fun _ _ z => z.elim) (fun v h2 z => ?_)
  obtain ⟨yv, rfl, e17, hf, eJ, γ', s', L'⟩ := z
  refine g_istore (pc := 2431) (lv' := [(6, .int yv), (5, .int (nI code)), (4, .int (nI j)), (3, .ref (A 0)), (2, .ref (A 8)), (1, .ref (A 22)), (0, .ref (eXa E))]) d_LAW_2431 (by decide) rfl ?_
  refine g_aload_n (pc := 2433) d_LAW_2433 rfl 4 rfl ?_
  refine g_cV1 (pc := 2434) (ci := 7) (As := []) d_LAW_2434 rfl mv_MO_thrown st_LAW_171 rfl rfl (by decide) rfl rfl (Nat.le_of_ble_eq_true rfl) L'.1.2.1.1.1 (thr_ct L') ?_
  refine g_top e17 ?_
  refine g_iload (pc := 2437) d_LAW_2437 1 rfl ?_
  refine g_icmp_eq (pc := 2439) (tgt := 2444) d_LAW_2439 (by decide) (fun _ => ?_) (fun q => absurd rfl q)
  refine g_iload (pc := 2444) d_LAW_2444 1 rfl ?_
  refine g_if_ne (pc := 2446) (tgt := 2461) d_LAW_2446 (by decide) (fun q => ?_) (fun q => ?_)
  · skip
    refine g_goto (pc := 2461) (tgt := 3284) d_LAW_2461 (by decide) ?_
    refine g_perm [2, 3, 4, 5, 6] rfl ?_
    exact kk _ ⟨γ', s', L'⟩
  · have c0 := code0 hcd q
    refine g_aload_n (pc := 2449) d_LAW_2449 rfl 3 rfl ?_
    refine g_iconst (pc := 2450) (v := 0) d_LAW_2450 (by decide) ?_
    refine g_laload (pc := 2451) d_LAW_2451 L'.1.2.1.2.2.2.1 (z_vp L'.1.2.1.2.2.2.2) ?_
    refine g_iload (pc := 2452) d_LAW_2452 0 rfl ?_
    refine g_i2l (pc := 2454) d_LAW_2454 ?_
    refine g_lcmp (pc := 2455) d_LAW_2455 ?_
    refine g_top (y := 0) (by
      show lg_cmp (hJ h2 (A 0) 0) yv.toInt64 = 0
      rw [eJ, hz c0, ← hf c0]
      exact lg_self _) ?_
    refine g_if_eq (pc := 2456) (tgt := 2461) d_LAW_2456 (by decide) (fun _ => ?_) (fun q => absurd rfl q)
    refine g_goto (pc := 2461) (tgt := 3284) d_LAW_2461 (by decide) ?_
    refine g_perm [2, 3, 4, 5, 6] rfl ?_
    exact kk _ ⟨γ', s', L'⟩
theorem lc_46 {E : En} {h : Hp} {A : Nat → Nat} {j c k n : Nat} {PP : Option Value → Hp → Prop} {X : String → Hp → Prop} (hl : eXl E < 2 ^ 31) (hj : j + 5 < eXl E) (k_x : hK h (A 22) = 1) (a : AnsD E m_HS_shopAtRank m_MO_shopAtRank [.int (eXs E (j + 1))] h A c) (kk : ∀ h1, LOK h1 A (c + 1) → G E m_LAW 3284 [(4, .int (nI j)), (3, .ref (A 0)), (2, .ref (A 8)), (1, .ref (A 22)), (0, .ref (eXa E))] [] h1 k n PP X) : G E m_LAW 2464 [(4, .int (nI j)), (3, .ref (A 0)), (2, .ref (A 8)), (1, .ref (A 22)), (0, .ref (eXa E))] [] h k n PP X := by
  refine g_aload_n (pc := 2464) d_LAW_2464 rfl 3 rfl ?_
  refine g_aload_n (pc := 2465) d_LAW_2465 rfl 4 rfl ?_
  refine g_iload (pc := 2466) d_LAW_2466 0 rfl ?_
  refine g_iconst (pc := 2468) (v := 1) d_LAW_2468 (by decide) ?_
  refine g_iadd (pc := 2469) d_LAW_2469 ?_
  refine g_top (y := nI (j + 1)) (nI_add j 1) ?_
  refine g_sld (pc := 2470) (j := j + 1) (by omega) hl d_LAW_2470 ?_
  refine g_callV (k := k) (n := n) (kz := 0) (nz := 0) (pc := 2471) (ci := 0) (As := [.int _]) d_LAW_2471 rfl mv_HS_shopAtRank st_LAW_324 rfl rfl (by decide) k_x rfl rfl (Nat.le_of_ble_eq_true rfl) a (fun _ _ z => z.elim) (fun v h1 z => ?_)
  obtain ⟨z9, rfl, km, hm⟩ := z
  refine g_aload_n (pc := 2474) d_LAW_2474 rfl 2 rfl ?_
  refine g_aload_n (pc := 2475) d_LAW_2475 rfl 4 rfl ?_
  refine g_iload (pc := 2476) d_LAW_2476 0 rfl ?_
  refine g_iconst (pc := 2478) (v := 1) d_LAW_2478 (by decide) ?_
  refine g_iadd (pc := 2479) d_LAW_2479 ?_
  refine g_top (y := nI (j + 1)) (nI_add j 1) ?_
  refine g_sld (pc := 2480) (j := j + 1) (by omega) hl d_LAW_2480 ?_
  refine g_callV (k := k) (n := n) (kz := 0) (nz := 0) (pc := 2481) (ci := 7) (As := [.int _]) d_LAW_2481 rfl mv_MO_shopAtRank st_LAW_327 rfl rfl (by decide) km rfl rfl (Nat.le_of_ble_eq_true rfl) hm (fun _ _ z => z.elim) (fun v h2 z => ?_)
  obtain ⟨rfl, L'⟩ := z
  refine g_icmp_eq (pc := 2484) (tgt := 3284) d_LAW_2484 (by decide) (fun _ => ?_) (fun q => absurd rfl q)
  exact kk _ L'
theorem lc_47 {E : En} {h : Hp} {A : Nat → Nat} {j c k n : Nat} {PP : Option Value → Hp → Prop} {X : String → Hp → Prop} (hl : eXl E < 2 ^ 31) (hj : j + 5 < eXl E) (a : AnsW E m_LW_usesThumb m_MO_usesThumb fZ [.int (eXs E (j + 1))] h A c) (kk : ∀ h1, LOK h1 A (c + 1) → G E m_LAW 3284 [(4, .int (nI j)), (3, .ref (A 0)), (2, .ref (A 8)), (1, .ref (A 22)), (0, .ref (eXa E))] [] h1 k n PP X) : G E m_LAW 2489 [(4, .int (nI j)), (3, .ref (A 0)), (2, .ref (A 8)), (1, .ref (A 22)), (0, .ref (eXa E))] [] h (k + 11) (n + 156) PP X := by
  refine g_aload_n (pc := 2489) d_LAW_2489 rfl 3 rfl ?_
  refine g_aload_n (pc := 2490) d_LAW_2490 rfl 4 rfl ?_
  refine g_iload (pc := 2491) d_LAW_2491 0 rfl ?_
  refine g_iconst (pc := 2493) (v := 1) d_LAW_2493 (by decide) ?_
  refine g_iadd (pc := 2494) d_LAW_2494 ?_
  refine g_top (y := nI (j + 1)) (nI_add j 1) ?_
  refine g_sld (pc := 2495) (j := j + 1) (by omega) hl d_LAW_2495 ?_
  refine g_aload_n (pc := 2496) d_LAW_2496 rfl 1 rfl ?_
  refine g_callSX (k := k) (n := n) (kz := 11) (nz := 156) (pc := 2497) (As := [.ref _, .int _, .ref _]) d_LAW_2497 rfl mx_LW_usesThumb st_LAW_328 rfl rfl (Nat.le_of_ble_eq_true rfl) a (fun _ _ z => z.elim) (fun v h1 z => ?_)
  obtain ⟨code, z, hcd, rfl, km, hz, hm⟩ := z
  refine g_istore (pc := 2500) (lv' := [(5, .int (nI code)), (4, .int (nI j)), (3, .ref (A 0)), (2, .ref (A 8)), (1, .ref (A 22)), (0, .ref (eXa E))]) d_LAW_2500 (by decide) rfl ?_
  refine g_aload_n (pc := 2502) d_LAW_2502 rfl 3 rfl ?_
  refine g_aload_n (pc := 2503) d_LAW_2503 rfl 5 rfl ?_
  refine g_iload (pc := 2504) d_LAW_2504 1 rfl ?_
  refine g_iconst (pc := 2506) (v := 1) d_LAW_2506 (by decide) ?_
  refine g_iadd (pc := 2507) d_LAW_2507 ?_
  refine g_top (y := nI (j + 1)) (nI_add j 1) ?_
  refine g_sld (pc := 2508) (j := j + 1) (by omega) hl d_LAW_2508 ?_
  refine g_callV (k := k) (n := n) (kz := 0) (nz := 0) (pc := 2509) (ci := 7) (As := [.int _]) d_LAW_2509 rfl mv_MO_usesThumb st_LAW_330 rfl rfl (by decide) km rfl rfl (Nat.le_of_ble_eq_true rfl) hm (fun _ _ z => z.elim) (fun v h2 z => ?_)
  obtain ⟨yv, rfl, e17, hf, eJ, γ', s', L'⟩ := z
  refine g_istore (pc := 2512) (lv' := [(6, .int yv), (5, .int (nI code)), (4, .int (nI j)), (3, .ref (A 0)), (2, .ref (A 8)), (1, .ref (A 22)), (0, .ref (eXa E))]) d_LAW_2512 (by decide) rfl ?_
  refine g_aload_n (pc := 2514) d_LAW_2514 rfl 4 rfl ?_
  refine g_cV1 (pc := 2515) (ci := 7) (As := []) d_LAW_2515 rfl mv_MO_thrown st_LAW_171 rfl rfl (by decide) rfl rfl (Nat.le_of_ble_eq_true rfl) L'.1.2.1.1.1 (thr_ct L') ?_
  refine g_top e17 ?_
  refine g_iload (pc := 2518) d_LAW_2518 1 rfl ?_
  refine g_icmp_eq (pc := 2520) (tgt := 2525) d_LAW_2520 (by decide) (fun _ => ?_) (fun q => absurd rfl q)
  refine g_iload (pc := 2525) d_LAW_2525 1 rfl ?_
  refine g_if_ne (pc := 2527) (tgt := 2549) d_LAW_2527 (by decide) (fun q => ?_) (fun q => ?_)
  · skip
    refine g_goto (pc := 2549) (tgt := 3284) d_LAW_2549 (by decide) ?_
    refine g_perm [2, 3, 4, 5, 6] rfl ?_
    exact kk _ ⟨γ', s', L'⟩
  · have c0 := code0 hcd q
    refine g_aload_n (pc := 2530) d_LAW_2530 rfl 3 rfl ?_
    refine g_iconst (pc := 2531) (v := 0) d_LAW_2531 (by decide) ?_
    refine g_laload (pc := 2532) d_LAW_2532 L'.1.2.1.2.2.2.1 (z_vp L'.1.2.1.2.2.2.2) ?_
    refine g_iload (pc := 2533) d_LAW_2533 0 rfl ?_
    refine g_if_eq (pc := 2535) (tgt := 2542) d_LAW_2535 (by decide) (fun b0 => ?_) (fun b0 => ?_)
    · skip
      refine g_lconst (pc := 2542) (v := 0) d_LAW_2542 (by decide) ?_
      refine g_lcmp (pc := 2543) d_LAW_2543 ?_
      refine g_top (y := 0) (by
        show lg_cmp (hJ h2 (A 0) 0) 0 = 0
        rw [eJ, hz c0, ← hf c0]
        show lg_cmp (if yv = 0 then 0 else 1) 0 = 0
        rw [if_pos b0]
        exact lg_self _) ?_
      refine g_if_eq (pc := 2544) (tgt := 2549) d_LAW_2544 (by decide) (fun _ => ?_) (fun q => absurd rfl q)
      refine g_goto (pc := 2549) (tgt := 3284) d_LAW_2549 (by decide) ?_
      refine g_perm [2, 3, 4, 5, 6] rfl ?_
      exact kk _ ⟨γ', s', L'⟩
    · skip
      refine g_lconst (pc := 2538) (v := 1) d_LAW_2538 (by decide) ?_
      refine g_goto (pc := 2539) (tgt := 2543) d_LAW_2539 (by decide) ?_
      refine g_lcmp (pc := 2543) d_LAW_2543 ?_
      refine g_top (y := 0) (by
        show lg_cmp (hJ h2 (A 0) 0) 1 = 0
        rw [eJ, hz c0, ← hf c0]
        show lg_cmp (if yv = 0 then 0 else 1) 1 = 0
        rw [if_neg b0]
        exact lg_self _) ?_
      refine g_if_eq (pc := 2544) (tgt := 2549) d_LAW_2544 (by decide) (fun _ => ?_) (fun q => absurd rfl q)
      refine g_goto (pc := 2549) (tgt := 3284) d_LAW_2549 (by decide) ?_
      refine g_perm [2, 3, 4, 5, 6] rfl ?_
      exact kk _ ⟨γ', s', L'⟩
theorem lc_48 {E : En} {h : Hp} {A : Nat → Nat} {j c k n : Nat} {PP : Option Value → Hp → Prop} {X : String → Hp → Prop} (hl : eXl E < 2 ^ 31) (hj : j + 5 < eXl E) (a : AnsW E m_LW_fineIfVisited m_MO_fineIfVisited fI [.int (eXs E (j + 1))] h A c) (kk : ∀ h1, LOK h1 A (c + 1) → G E m_LAW 3284 [(4, .int (nI j)), (3, .ref (A 0)), (2, .ref (A 8)), (1, .ref (A 22)), (0, .ref (eXa E))] [] h1 k n PP X) : G E m_LAW 2552 [(4, .int (nI j)), (3, .ref (A 0)), (2, .ref (A 8)), (1, .ref (A 22)), (0, .ref (eXa E))] [] h (k + 11) (n + 156) PP X := by
  refine g_aload_n (pc := 2552) d_LAW_2552 rfl 3 rfl ?_
  refine g_aload_n (pc := 2553) d_LAW_2553 rfl 4 rfl ?_
  refine g_iload (pc := 2554) d_LAW_2554 0 rfl ?_
  refine g_iconst (pc := 2556) (v := 1) d_LAW_2556 (by decide) ?_
  refine g_iadd (pc := 2557) d_LAW_2557 ?_
  refine g_top (y := nI (j + 1)) (nI_add j 1) ?_
  refine g_sld (pc := 2558) (j := j + 1) (by omega) hl d_LAW_2558 ?_
  refine g_aload_n (pc := 2559) d_LAW_2559 rfl 1 rfl ?_
  refine g_callSX (k := k) (n := n) (kz := 11) (nz := 156) (pc := 2560) (As := [.ref _, .int _, .ref _]) d_LAW_2560 rfl mx_LW_fineIfVisited st_LAW_331 rfl rfl (Nat.le_of_ble_eq_true rfl) a (fun _ _ z => z.elim) (fun v h1 z => ?_)
  obtain ⟨code, z, hcd, rfl, km, hz, hm⟩ := z
  refine g_istore (pc := 2563) (lv' := [(5, .int (nI code)), (4, .int (nI j)), (3, .ref (A 0)), (2, .ref (A 8)), (1, .ref (A 22)), (0, .ref (eXa E))]) d_LAW_2563 (by decide) rfl ?_
  refine g_aload_n (pc := 2565) d_LAW_2565 rfl 3 rfl ?_
  refine g_aload_n (pc := 2566) d_LAW_2566 rfl 5 rfl ?_
  refine g_iload (pc := 2567) d_LAW_2567 1 rfl ?_
  refine g_iconst (pc := 2569) (v := 1) d_LAW_2569 (by decide) ?_
  refine g_iadd (pc := 2570) d_LAW_2570 ?_
  refine g_top (y := nI (j + 1)) (nI_add j 1) ?_
  refine g_sld (pc := 2571) (j := j + 1) (by omega) hl d_LAW_2571 ?_
  refine g_callV (k := k) (n := n) (kz := 0) (nz := 0) (pc := 2572) (ci := 7) (As := [.int _]) d_LAW_2572 rfl mv_MO_fineIfVisited st_LAW_333 rfl rfl (by decide) km rfl rfl (Nat.le_of_ble_eq_true rfl) hm (fun _ _ z => z.elim) (fun v h2 z => ?_)
  obtain ⟨yv, rfl, e17, hf, eJ, γ', s', L'⟩ := z
  refine g_istore (pc := 2575) (lv' := [(6, .int yv), (5, .int (nI code)), (4, .int (nI j)), (3, .ref (A 0)), (2, .ref (A 8)), (1, .ref (A 22)), (0, .ref (eXa E))]) d_LAW_2575 (by decide) rfl ?_
  refine g_aload_n (pc := 2577) d_LAW_2577 rfl 4 rfl ?_
  refine g_cV1 (pc := 2578) (ci := 7) (As := []) d_LAW_2578 rfl mv_MO_thrown st_LAW_171 rfl rfl (by decide) rfl rfl (Nat.le_of_ble_eq_true rfl) L'.1.2.1.1.1 (thr_ct L') ?_
  refine g_top e17 ?_
  refine g_iload (pc := 2581) d_LAW_2581 1 rfl ?_
  refine g_icmp_eq (pc := 2583) (tgt := 2588) d_LAW_2583 (by decide) (fun _ => ?_) (fun q => absurd rfl q)
  refine g_iload (pc := 2588) d_LAW_2588 1 rfl ?_
  refine g_if_ne (pc := 2590) (tgt := 2605) d_LAW_2590 (by decide) (fun q => ?_) (fun q => ?_)
  · skip
    refine g_goto (pc := 2605) (tgt := 3284) d_LAW_2605 (by decide) ?_
    refine g_perm [2, 3, 4, 5, 6] rfl ?_
    exact kk _ ⟨γ', s', L'⟩
  · have c0 := code0 hcd q
    refine g_aload_n (pc := 2593) d_LAW_2593 rfl 3 rfl ?_
    refine g_iconst (pc := 2594) (v := 0) d_LAW_2594 (by decide) ?_
    refine g_laload (pc := 2595) d_LAW_2595 L'.1.2.1.2.2.2.1 (z_vp L'.1.2.1.2.2.2.2) ?_
    refine g_iload (pc := 2596) d_LAW_2596 0 rfl ?_
    refine g_i2l (pc := 2598) d_LAW_2598 ?_
    refine g_lcmp (pc := 2599) d_LAW_2599 ?_
    refine g_top (y := 0) (by
      show lg_cmp (hJ h2 (A 0) 0) yv.toInt64 = 0
      rw [eJ, hz c0, ← hf c0]
      exact lg_self _) ?_
    refine g_if_eq (pc := 2600) (tgt := 2605) d_LAW_2600 (by decide) (fun _ => ?_) (fun q => absurd rfl q)
    refine g_goto (pc := 2605) (tgt := 3284) d_LAW_2605 (by decide) ?_
    refine g_perm [2, 3, 4, 5, 6] rfl ?_
    exact kk _ ⟨γ', s', L'⟩
theorem lc_49 {E : En} {h : Hp} {A : Nat → Nat} {j c k n : Nat} {PP : Option Value → Hp → Prop} {X : String → Hp → Prop} (hl : eXl E < 2 ^ 31) (hj : j + 5 < eXl E) (a : AnsW E m_LW_whyFail m_MO_whyFail fI [.int (eXs E (j + 1))] h A c) (kk : ∀ h1, LOK h1 A (c + 1) → G E m_LAW 3284 [(4, .int (nI j)), (3, .ref (A 0)), (2, .ref (A 8)), (1, .ref (A 22)), (0, .ref (eXa E))] [] h1 k n PP X) : G E m_LAW 2608 [(4, .int (nI j)), (3, .ref (A 0)), (2, .ref (A 8)), (1, .ref (A 22)), (0, .ref (eXa E))] [] h (k + 11) (n + 156) PP X := by
  refine g_aload_n (pc := 2608) d_LAW_2608 rfl 3 rfl ?_
  refine g_aload_n (pc := 2609) d_LAW_2609 rfl 4 rfl ?_
  refine g_iload (pc := 2610) d_LAW_2610 0 rfl ?_
  refine g_iconst (pc := 2612) (v := 1) d_LAW_2612 (by decide) ?_
  refine g_iadd (pc := 2613) d_LAW_2613 ?_
  refine g_top (y := nI (j + 1)) (nI_add j 1) ?_
  refine g_sld (pc := 2614) (j := j + 1) (by omega) hl d_LAW_2614 ?_
  refine g_aload_n (pc := 2615) d_LAW_2615 rfl 1 rfl ?_
  refine g_callSX (k := k) (n := n) (kz := 11) (nz := 156) (pc := 2616) (As := [.ref _, .int _, .ref _]) d_LAW_2616 rfl mx_LW_whyFail st_LAW_334 rfl rfl (Nat.le_of_ble_eq_true rfl) a (fun _ _ z => z.elim) (fun v h1 z => ?_)
  obtain ⟨code, z, hcd, rfl, km, hz, hm⟩ := z
  refine g_istore (pc := 2619) (lv' := [(5, .int (nI code)), (4, .int (nI j)), (3, .ref (A 0)), (2, .ref (A 8)), (1, .ref (A 22)), (0, .ref (eXa E))]) d_LAW_2619 (by decide) rfl ?_
  refine g_aload_n (pc := 2621) d_LAW_2621 rfl 3 rfl ?_
  refine g_aload_n (pc := 2622) d_LAW_2622 rfl 5 rfl ?_
  refine g_iload (pc := 2623) d_LAW_2623 1 rfl ?_
  refine g_iconst (pc := 2625) (v := 1) d_LAW_2625 (by decide) ?_
  refine g_iadd (pc := 2626) d_LAW_2626 ?_
  refine g_top (y := nI (j + 1)) (nI_add j 1) ?_
  refine g_sld (pc := 2627) (j := j + 1) (by omega) hl d_LAW_2627 ?_
  refine g_callV (k := k) (n := n) (kz := 0) (nz := 0) (pc := 2628) (ci := 7) (As := [.int _]) d_LAW_2628 rfl mv_MO_whyFail st_LAW_336 rfl rfl (by decide) km rfl rfl (Nat.le_of_ble_eq_true rfl) hm (fun _ _ z => z.elim) (fun v h2 z => ?_)
  obtain ⟨yv, rfl, e17, hf, eJ, γ', s', L'⟩ := z
  refine g_istore (pc := 2631) (lv' := [(6, .int yv), (5, .int (nI code)), (4, .int (nI j)), (3, .ref (A 0)), (2, .ref (A 8)), (1, .ref (A 22)), (0, .ref (eXa E))]) d_LAW_2631 (by decide) rfl ?_
  refine g_aload_n (pc := 2633) d_LAW_2633 rfl 4 rfl ?_
  refine g_cV1 (pc := 2634) (ci := 7) (As := []) d_LAW_2634 rfl mv_MO_thrown st_LAW_171 rfl rfl (by decide) rfl rfl (Nat.le_of_ble_eq_true rfl) L'.1.2.1.1.1 (thr_ct L') ?_
  refine g_top e17 ?_
  refine g_iload (pc := 2637) d_LAW_2637 1 rfl ?_
  refine g_icmp_eq (pc := 2639) (tgt := 2644) d_LAW_2639 (by decide) (fun _ => ?_) (fun q => absurd rfl q)
  refine g_iload (pc := 2644) d_LAW_2644 1 rfl ?_
  refine g_if_ne (pc := 2646) (tgt := 2661) d_LAW_2646 (by decide) (fun q => ?_) (fun q => ?_)
  · skip
    refine g_goto (pc := 2661) (tgt := 3284) d_LAW_2661 (by decide) ?_
    refine g_perm [2, 3, 4, 5, 6] rfl ?_
    exact kk _ ⟨γ', s', L'⟩
  · have c0 := code0 hcd q
    refine g_aload_n (pc := 2649) d_LAW_2649 rfl 3 rfl ?_
    refine g_iconst (pc := 2650) (v := 0) d_LAW_2650 (by decide) ?_
    refine g_laload (pc := 2651) d_LAW_2651 L'.1.2.1.2.2.2.1 (z_vp L'.1.2.1.2.2.2.2) ?_
    refine g_iload (pc := 2652) d_LAW_2652 0 rfl ?_
    refine g_i2l (pc := 2654) d_LAW_2654 ?_
    refine g_lcmp (pc := 2655) d_LAW_2655 ?_
    refine g_top (y := 0) (by
      show lg_cmp (hJ h2 (A 0) 0) yv.toInt64 = 0
      rw [eJ, hz c0, ← hf c0]
      exact lg_self _) ?_
    refine g_if_eq (pc := 2656) (tgt := 2661) d_LAW_2656 (by decide) (fun _ => ?_) (fun q => absurd rfl q)
    refine g_goto (pc := 2661) (tgt := 3284) d_LAW_2661 (by decide) ?_
    refine g_perm [2, 3, 4, 5, 6] rfl ?_
    exact kk _ ⟨γ', s', L'⟩
theorem lc_50 {E : En} {h : Hp} {A : Nat → Nat} {j c k n : Nat} {PP : Option Value → Hp → Prop} {X : String → Hp → Prop} (hl : eXl E < 2 ^ 31) (hj : j + 5 < eXl E) (a : AnsW E m_LW_nextGain m_MO_nextGain fI [.int (eXs E (j + 1))] h A c) (kk : ∀ h1, LOK h1 A (c + 1) → G E m_LAW 3284 [(4, .int (nI j)), (3, .ref (A 0)), (2, .ref (A 8)), (1, .ref (A 22)), (0, .ref (eXa E))] [] h1 k n PP X) : G E m_LAW 2664 [(4, .int (nI j)), (3, .ref (A 0)), (2, .ref (A 8)), (1, .ref (A 22)), (0, .ref (eXa E))] [] h (k + 11) (n + 156) PP X := by
  refine g_aload_n (pc := 2664) d_LAW_2664 rfl 3 rfl ?_
  refine g_aload_n (pc := 2665) d_LAW_2665 rfl 4 rfl ?_
  refine g_iload (pc := 2666) d_LAW_2666 0 rfl ?_
  refine g_iconst (pc := 2668) (v := 1) d_LAW_2668 (by decide) ?_
  refine g_iadd (pc := 2669) d_LAW_2669 ?_
  refine g_top (y := nI (j + 1)) (nI_add j 1) ?_
  refine g_sld (pc := 2670) (j := j + 1) (by omega) hl d_LAW_2670 ?_
  refine g_aload_n (pc := 2671) d_LAW_2671 rfl 1 rfl ?_
  refine g_callSX (k := k) (n := n) (kz := 11) (nz := 156) (pc := 2672) (As := [.ref _, .int _, .ref _]) d_LAW_2672 rfl mx_LW_nextGain st_LAW_337 rfl rfl (Nat.le_of_ble_eq_true rfl) a (fun _ _ z => z.elim) (fun v h1 z => ?_)
  obtain ⟨code, z, hcd, rfl, km, hz, hm⟩ := z
  refine g_istore (pc := 2675) (lv' := [(5, .int (nI code)), (4, .int (nI j)), (3, .ref (A 0)), (2, .ref (A 8)), (1, .ref (A 22)), (0, .ref (eXa E))]) d_LAW_2675 (by decide) rfl ?_
  refine g_aload_n (pc := 2677) d_LAW_2677 rfl 3 rfl ?_
  refine g_aload_n (pc := 2678) d_LAW_2678 rfl 5 rfl ?_
  refine g_iload (pc := 2679) d_LAW_2679 1 rfl ?_
  refine g_iconst (pc := 2681) (v := 1) d_LAW_2681 (by decide) ?_
  refine g_iadd (pc := 2682) d_LAW_2682 ?_
  refine g_top (y := nI (j + 1)) (nI_add j 1) ?_
  refine g_sld (pc := 2683) (j := j + 1) (by omega) hl d_LAW_2683 ?_
  refine g_callV (k := k) (n := n) (kz := 0) (nz := 0) (pc := 2684) (ci := 7) (As := [.int _]) d_LAW_2684 rfl mv_MO_nextGain st_LAW_339 rfl rfl (by decide) km rfl rfl (Nat.le_of_ble_eq_true rfl) hm (fun _ _ z => z.elim) (fun v h2 z => ?_)
  obtain ⟨yv, rfl, e17, hf, eJ, γ', s', L'⟩ := z
  refine g_istore (pc := 2687) (lv' := [(6, .int yv), (5, .int (nI code)), (4, .int (nI j)), (3, .ref (A 0)), (2, .ref (A 8)), (1, .ref (A 22)), (0, .ref (eXa E))]) d_LAW_2687 (by decide) rfl ?_
  refine g_aload_n (pc := 2689) d_LAW_2689 rfl 4 rfl ?_
  refine g_cV1 (pc := 2690) (ci := 7) (As := []) d_LAW_2690 rfl mv_MO_thrown st_LAW_171 rfl rfl (by decide) rfl rfl (Nat.le_of_ble_eq_true rfl) L'.1.2.1.1.1 (thr_ct L') ?_
  refine g_top e17 ?_
  refine g_iload (pc := 2693) d_LAW_2693 1 rfl ?_
  refine g_icmp_eq (pc := 2695) (tgt := 2700) d_LAW_2695 (by decide) (fun _ => ?_) (fun q => absurd rfl q)
  refine g_iload (pc := 2700) d_LAW_2700 1 rfl ?_
  refine g_if_ne (pc := 2702) (tgt := 2717) d_LAW_2702 (by decide) (fun q => ?_) (fun q => ?_)
  · skip
    refine g_goto (pc := 2717) (tgt := 3284) d_LAW_2717 (by decide) ?_
    refine g_perm [2, 3, 4, 5, 6] rfl ?_
    exact kk _ ⟨γ', s', L'⟩
  · have c0 := code0 hcd q
    refine g_aload_n (pc := 2705) d_LAW_2705 rfl 3 rfl ?_
    refine g_iconst (pc := 2706) (v := 0) d_LAW_2706 (by decide) ?_
    refine g_laload (pc := 2707) d_LAW_2707 L'.1.2.1.2.2.2.1 (z_vp L'.1.2.1.2.2.2.2) ?_
    refine g_iload (pc := 2708) d_LAW_2708 0 rfl ?_
    refine g_i2l (pc := 2710) d_LAW_2710 ?_
    refine g_lcmp (pc := 2711) d_LAW_2711 ?_
    refine g_top (y := 0) (by
      show lg_cmp (hJ h2 (A 0) 0) yv.toInt64 = 0
      rw [eJ, hz c0, ← hf c0]
      exact lg_self _) ?_
    refine g_if_eq (pc := 2712) (tgt := 2717) d_LAW_2712 (by decide) (fun _ => ?_) (fun q => absurd rfl q)
    refine g_goto (pc := 2717) (tgt := 3284) d_LAW_2717 (by decide) ?_
    refine g_perm [2, 3, 4, 5, 6] rfl ?_
    exact kk _ ⟨γ', s', L'⟩
theorem lc_51 {E : En} {h : Hp} {A : Nat → Nat} {j c k n : Nat} {PP : Option Value → Hp → Prop} {X : String → Hp → Prop} (hl : eXl E < 2 ^ 31) (hj : j + 5 < eXl E) (k_x : hK h (A 22) = 1) (a : AnsD E m_HS_nextVisited m_MO_nextVisited [] h A c) (kk : ∀ h1, LOK h1 A (c + 1) → G E m_LAW 3284 [(4, .int (nI j)), (3, .ref (A 0)), (2, .ref (A 8)), (1, .ref (A 22)), (0, .ref (eXa E))] [] h1 k n PP X) : G E m_LAW 2720 [(4, .int (nI j)), (3, .ref (A 0)), (2, .ref (A 8)), (1, .ref (A 22)), (0, .ref (eXa E))] [] h k n PP X := by
  refine g_aload_n (pc := 2720) d_LAW_2720 rfl 3 rfl ?_
  refine g_callV (k := k) (n := n) (kz := 0) (nz := 0) (pc := 2721) (ci := 0) (As := []) d_LAW_2721 rfl mv_HS_nextVisited st_LAW_340 rfl rfl (by decide) k_x rfl rfl (Nat.le_of_ble_eq_true rfl) a (fun _ _ z => z.elim) (fun v h1 z => ?_)
  obtain ⟨z9, rfl, km, hm⟩ := z
  refine g_aload_n (pc := 2724) d_LAW_2724 rfl 2 rfl ?_
  refine g_callV (k := k) (n := n) (kz := 0) (nz := 0) (pc := 2725) (ci := 7) (As := []) d_LAW_2725 rfl mv_MO_nextVisited st_LAW_343 rfl rfl (by decide) km rfl rfl (Nat.le_of_ble_eq_true rfl) hm (fun _ _ z => z.elim) (fun v h2 z => ?_)
  obtain ⟨rfl, L'⟩ := z
  refine g_icmp_eq (pc := 2728) (tgt := 3284) d_LAW_2728 (by decide) (fun _ => ?_) (fun q => absurd rfl q)
  exact kk _ L'
theorem lc_52 {E : En} {h : Hp} {A : Nat → Nat} {j c k n : Nat} {PP : Option Value → Hp → Prop} {X : String → Hp → Prop} (hl : eXl E < 2 ^ 31) (hj : j + 5 < eXl E) (a : AnsW E m_LW_daysUntilFalse m_MO_daysUntilFalse fI [.int (eXs E (j + 1))] h A c) (kk : ∀ h1, LOK h1 A (c + 1) → G E m_LAW 3284 [(4, .int (nI j)), (3, .ref (A 0)), (2, .ref (A 8)), (1, .ref (A 22)), (0, .ref (eXa E))] [] h1 k n PP X) : G E m_LAW 2733 [(4, .int (nI j)), (3, .ref (A 0)), (2, .ref (A 8)), (1, .ref (A 22)), (0, .ref (eXa E))] [] h (k + 11) (n + 156) PP X := by
  refine g_aload_n (pc := 2733) d_LAW_2733 rfl 3 rfl ?_
  refine g_aload_n (pc := 2734) d_LAW_2734 rfl 4 rfl ?_
  refine g_iload (pc := 2735) d_LAW_2735 0 rfl ?_
  refine g_iconst (pc := 2737) (v := 1) d_LAW_2737 (by decide) ?_
  refine g_iadd (pc := 2738) d_LAW_2738 ?_
  refine g_top (y := nI (j + 1)) (nI_add j 1) ?_
  refine g_sld (pc := 2739) (j := j + 1) (by omega) hl d_LAW_2739 ?_
  refine g_aload_n (pc := 2740) d_LAW_2740 rfl 1 rfl ?_
  refine g_callSX (k := k) (n := n) (kz := 11) (nz := 156) (pc := 2741) (As := [.ref _, .int _, .ref _]) d_LAW_2741 rfl mx_LW_daysUntilFalse st_LAW_344 rfl rfl (Nat.le_of_ble_eq_true rfl) a (fun _ _ z => z.elim) (fun v h1 z => ?_)
  obtain ⟨code, z, hcd, rfl, km, hz, hm⟩ := z
  refine g_istore (pc := 2744) (lv' := [(5, .int (nI code)), (4, .int (nI j)), (3, .ref (A 0)), (2, .ref (A 8)), (1, .ref (A 22)), (0, .ref (eXa E))]) d_LAW_2744 (by decide) rfl ?_
  refine g_aload_n (pc := 2746) d_LAW_2746 rfl 3 rfl ?_
  refine g_aload_n (pc := 2747) d_LAW_2747 rfl 5 rfl ?_
  refine g_iload (pc := 2748) d_LAW_2748 1 rfl ?_
  refine g_iconst (pc := 2750) (v := 1) d_LAW_2750 (by decide) ?_
  refine g_iadd (pc := 2751) d_LAW_2751 ?_
  refine g_top (y := nI (j + 1)) (nI_add j 1) ?_
  refine g_sld (pc := 2752) (j := j + 1) (by omega) hl d_LAW_2752 ?_
  refine g_callV (k := k) (n := n) (kz := 0) (nz := 0) (pc := 2753) (ci := 7) (As := [.int _]) d_LAW_2753 rfl mv_MO_daysUntilFalse st_LAW_346 rfl rfl (by decide) km rfl rfl (Nat.le_of_ble_eq_true rfl) hm (fun _ _ z => z.elim) (fun v h2 z => ?_)
  obtain ⟨yv, rfl, e17, hf, eJ, γ', s', L'⟩ := z
  refine g_istore (pc := 2756) (lv' := [(6, .int yv), (5, .int (nI code)), (4, .int (nI j)), (3, .ref (A 0)), (2, .ref (A 8)), (1, .ref (A 22)), (0, .ref (eXa E))]) d_LAW_2756 (by decide) rfl ?_
  refine g_aload_n (pc := 2758) d_LAW_2758 rfl 4 rfl ?_
  refine g_cV1 (pc := 2759) (ci := 7) (As := []) d_LAW_2759 rfl mv_MO_thrown st_LAW_171 rfl rfl (by decide) rfl rfl (Nat.le_of_ble_eq_true rfl) L'.1.2.1.1.1 (thr_ct L') ?_
  refine g_top e17 ?_
  refine g_iload (pc := 2762) d_LAW_2762 1 rfl ?_
  refine g_icmp_eq (pc := 2764) (tgt := 2769) d_LAW_2764 (by decide) (fun _ => ?_) (fun q => absurd rfl q)
  refine g_iload (pc := 2769) d_LAW_2769 1 rfl ?_
  refine g_if_ne (pc := 2771) (tgt := 2786) d_LAW_2771 (by decide) (fun q => ?_) (fun q => ?_)
  · skip
    refine g_goto (pc := 2786) (tgt := 3284) d_LAW_2786 (by decide) ?_
    refine g_perm [2, 3, 4, 5, 6] rfl ?_
    exact kk _ ⟨γ', s', L'⟩
  · have c0 := code0 hcd q
    refine g_aload_n (pc := 2774) d_LAW_2774 rfl 3 rfl ?_
    refine g_iconst (pc := 2775) (v := 0) d_LAW_2775 (by decide) ?_
    refine g_laload (pc := 2776) d_LAW_2776 L'.1.2.1.2.2.2.1 (z_vp L'.1.2.1.2.2.2.2) ?_
    refine g_iload (pc := 2777) d_LAW_2777 0 rfl ?_
    refine g_i2l (pc := 2779) d_LAW_2779 ?_
    refine g_lcmp (pc := 2780) d_LAW_2780 ?_
    refine g_top (y := 0) (by
      show lg_cmp (hJ h2 (A 0) 0) yv.toInt64 = 0
      rw [eJ, hz c0, ← hf c0]
      exact lg_self _) ?_
    refine g_if_eq (pc := 2781) (tgt := 2786) d_LAW_2781 (by decide) (fun _ => ?_) (fun q => absurd rfl q)
    refine g_goto (pc := 2786) (tgt := 3284) d_LAW_2786 (by decide) ?_
    refine g_perm [2, 3, 4, 5, 6] rfl ?_
    exact kk _ ⟨γ', s', L'⟩
theorem lc_53 {E : En} {h : Hp} {A : Nat → Nat} {j c k n : Nat} {PP : Option Value → Hp → Prop} {X : String → Hp → Prop} (hl : eXl E < 2 ^ 31) (hj : j + 5 < eXl E) (a : AnsW E m_LW_purseAfter m_MO_purseAfter fI [.int (eXs E (j + 1)), .int (eXs E (j + 2))] h A c) (kk : ∀ h1, LOK h1 A (c + 1) → G E m_LAW 3284 [(4, .int (nI j)), (3, .ref (A 0)), (2, .ref (A 8)), (1, .ref (A 22)), (0, .ref (eXa E))] [] h1 k n PP X) : G E m_LAW 2789 [(4, .int (nI j)), (3, .ref (A 0)), (2, .ref (A 8)), (1, .ref (A 22)), (0, .ref (eXa E))] [] h (k + 11) (n + 156) PP X := by
  refine g_aload_n (pc := 2789) d_LAW_2789 rfl 3 rfl ?_
  refine g_aload_n (pc := 2790) d_LAW_2790 rfl 4 rfl ?_
  refine g_iload (pc := 2791) d_LAW_2791 0 rfl ?_
  refine g_iconst (pc := 2793) (v := 1) d_LAW_2793 (by decide) ?_
  refine g_iadd (pc := 2794) d_LAW_2794 ?_
  refine g_top (y := nI (j + 1)) (nI_add j 1) ?_
  refine g_sld (pc := 2795) (j := j + 1) (by omega) hl d_LAW_2795 ?_
  refine g_aload_n (pc := 2796) d_LAW_2796 rfl 4 rfl ?_
  refine g_iload (pc := 2797) d_LAW_2797 0 rfl ?_
  refine g_iconst (pc := 2799) (v := 2) d_LAW_2799 (by decide) ?_
  refine g_iadd (pc := 2800) d_LAW_2800 ?_
  refine g_top (y := nI (j + 2)) (nI_add j 2) ?_
  refine g_sld (pc := 2801) (j := j + 2) (by omega) hl d_LAW_2801 ?_
  refine g_aload_n (pc := 2802) d_LAW_2802 rfl 1 rfl ?_
  refine g_callSX (k := k) (n := n) (kz := 11) (nz := 156) (pc := 2803) (As := [.ref _, .int _, .int _, .ref _]) d_LAW_2803 rfl mx_LW_purseAfter st_LAW_347 rfl rfl (Nat.le_of_ble_eq_true rfl) a (fun _ _ z => z.elim) (fun v h1 z => ?_)
  obtain ⟨code, z, hcd, rfl, km, hz, hm⟩ := z
  refine g_istore (pc := 2806) (lv' := [(5, .int (nI code)), (4, .int (nI j)), (3, .ref (A 0)), (2, .ref (A 8)), (1, .ref (A 22)), (0, .ref (eXa E))]) d_LAW_2806 (by decide) rfl ?_
  refine g_aload_n (pc := 2808) d_LAW_2808 rfl 3 rfl ?_
  refine g_aload_n (pc := 2809) d_LAW_2809 rfl 5 rfl ?_
  refine g_iload (pc := 2810) d_LAW_2810 1 rfl ?_
  refine g_iconst (pc := 2812) (v := 1) d_LAW_2812 (by decide) ?_
  refine g_iadd (pc := 2813) d_LAW_2813 ?_
  refine g_top (y := nI (j + 1)) (nI_add j 1) ?_
  refine g_sld (pc := 2814) (j := j + 1) (by omega) hl d_LAW_2814 ?_
  refine g_aload_n (pc := 2815) d_LAW_2815 rfl 5 rfl ?_
  refine g_iload (pc := 2816) d_LAW_2816 1 rfl ?_
  refine g_iconst (pc := 2818) (v := 2) d_LAW_2818 (by decide) ?_
  refine g_iadd (pc := 2819) d_LAW_2819 ?_
  refine g_top (y := nI (j + 2)) (nI_add j 2) ?_
  refine g_sld (pc := 2820) (j := j + 2) (by omega) hl d_LAW_2820 ?_
  refine g_callV (k := k) (n := n) (kz := 0) (nz := 0) (pc := 2821) (ci := 7) (As := [.int _, .int _]) d_LAW_2821 rfl mv_MO_purseAfter st_LAW_349 rfl rfl (by decide) km rfl rfl (Nat.le_of_ble_eq_true rfl) hm (fun _ _ z => z.elim) (fun v h2 z => ?_)
  obtain ⟨yv, rfl, e17, hf, eJ, γ', s', L'⟩ := z
  refine g_istore (pc := 2824) (lv' := [(6, .int yv), (5, .int (nI code)), (4, .int (nI j)), (3, .ref (A 0)), (2, .ref (A 8)), (1, .ref (A 22)), (0, .ref (eXa E))]) d_LAW_2824 (by decide) rfl ?_
  refine g_aload_n (pc := 2826) d_LAW_2826 rfl 4 rfl ?_
  refine g_cV1 (pc := 2827) (ci := 7) (As := []) d_LAW_2827 rfl mv_MO_thrown st_LAW_171 rfl rfl (by decide) rfl rfl (Nat.le_of_ble_eq_true rfl) L'.1.2.1.1.1 (thr_ct L') ?_
  refine g_top e17 ?_
  refine g_iload (pc := 2830) d_LAW_2830 1 rfl ?_
  refine g_icmp_eq (pc := 2832) (tgt := 2837) d_LAW_2832 (by decide) (fun _ => ?_) (fun q => absurd rfl q)
  refine g_iload (pc := 2837) d_LAW_2837 1 rfl ?_
  refine g_if_ne (pc := 2839) (tgt := 2854) d_LAW_2839 (by decide) (fun q => ?_) (fun q => ?_)
  · skip
    refine g_goto (pc := 2854) (tgt := 3284) d_LAW_2854 (by decide) ?_
    refine g_perm [2, 3, 4, 5, 6] rfl ?_
    exact kk _ ⟨γ', s', L'⟩
  · have c0 := code0 hcd q
    refine g_aload_n (pc := 2842) d_LAW_2842 rfl 3 rfl ?_
    refine g_iconst (pc := 2843) (v := 0) d_LAW_2843 (by decide) ?_
    refine g_laload (pc := 2844) d_LAW_2844 L'.1.2.1.2.2.2.1 (z_vp L'.1.2.1.2.2.2.2) ?_
    refine g_iload (pc := 2845) d_LAW_2845 0 rfl ?_
    refine g_i2l (pc := 2847) d_LAW_2847 ?_
    refine g_lcmp (pc := 2848) d_LAW_2848 ?_
    refine g_top (y := 0) (by
      show lg_cmp (hJ h2 (A 0) 0) yv.toInt64 = 0
      rw [eJ, hz c0, ← hf c0]
      exact lg_self _) ?_
    refine g_if_eq (pc := 2849) (tgt := 2854) d_LAW_2849 (by decide) (fun _ => ?_) (fun q => absurd rfl q)
    refine g_goto (pc := 2854) (tgt := 3284) d_LAW_2854 (by decide) ?_
    refine g_perm [2, 3, 4, 5, 6] rfl ?_
    exact kk _ ⟨γ', s', L'⟩
theorem lc_54 {E : En} {h : Hp} {A : Nat → Nat} {j c k n : Nat} {PP : Option Value → Hp → Prop} {X : String → Hp → Prop} (hl : eXl E < 2 ^ 31) (hj : j + 5 < eXl E) (a : AnsW E m_LW_bestThumb m_MO_bestThumb fI [.int (eXs E (j + 1)), .int (eXs E (j + 2))] h A c) (kk : ∀ h1, LOK h1 A (c + 1) → G E m_LAW 3284 [(4, .int (nI j)), (3, .ref (A 0)), (2, .ref (A 8)), (1, .ref (A 22)), (0, .ref (eXa E))] [] h1 k n PP X) : G E m_LAW 2857 [(4, .int (nI j)), (3, .ref (A 0)), (2, .ref (A 8)), (1, .ref (A 22)), (0, .ref (eXa E))] [] h (k + 11) (n + 156) PP X := by
  refine g_aload_n (pc := 2857) d_LAW_2857 rfl 3 rfl ?_
  refine g_aload_n (pc := 2858) d_LAW_2858 rfl 4 rfl ?_
  refine g_iload (pc := 2859) d_LAW_2859 0 rfl ?_
  refine g_iconst (pc := 2861) (v := 1) d_LAW_2861 (by decide) ?_
  refine g_iadd (pc := 2862) d_LAW_2862 ?_
  refine g_top (y := nI (j + 1)) (nI_add j 1) ?_
  refine g_sld (pc := 2863) (j := j + 1) (by omega) hl d_LAW_2863 ?_
  refine g_aload_n (pc := 2864) d_LAW_2864 rfl 4 rfl ?_
  refine g_iload (pc := 2865) d_LAW_2865 0 rfl ?_
  refine g_iconst (pc := 2867) (v := 2) d_LAW_2867 (by decide) ?_
  refine g_iadd (pc := 2868) d_LAW_2868 ?_
  refine g_top (y := nI (j + 2)) (nI_add j 2) ?_
  refine g_sld (pc := 2869) (j := j + 2) (by omega) hl d_LAW_2869 ?_
  refine g_aload_n (pc := 2870) d_LAW_2870 rfl 1 rfl ?_
  refine g_callSX (k := k) (n := n) (kz := 11) (nz := 156) (pc := 2871) (As := [.ref _, .int _, .int _, .ref _]) d_LAW_2871 rfl mx_LW_bestThumb st_LAW_350 rfl rfl (Nat.le_of_ble_eq_true rfl) a (fun _ _ z => z.elim) (fun v h1 z => ?_)
  obtain ⟨code, z, hcd, rfl, km, hz, hm⟩ := z
  refine g_istore (pc := 2874) (lv' := [(5, .int (nI code)), (4, .int (nI j)), (3, .ref (A 0)), (2, .ref (A 8)), (1, .ref (A 22)), (0, .ref (eXa E))]) d_LAW_2874 (by decide) rfl ?_
  refine g_aload_n (pc := 2876) d_LAW_2876 rfl 3 rfl ?_
  refine g_aload_n (pc := 2877) d_LAW_2877 rfl 5 rfl ?_
  refine g_iload (pc := 2878) d_LAW_2878 1 rfl ?_
  refine g_iconst (pc := 2880) (v := 1) d_LAW_2880 (by decide) ?_
  refine g_iadd (pc := 2881) d_LAW_2881 ?_
  refine g_top (y := nI (j + 1)) (nI_add j 1) ?_
  refine g_sld (pc := 2882) (j := j + 1) (by omega) hl d_LAW_2882 ?_
  refine g_aload_n (pc := 2883) d_LAW_2883 rfl 5 rfl ?_
  refine g_iload (pc := 2884) d_LAW_2884 1 rfl ?_
  refine g_iconst (pc := 2886) (v := 2) d_LAW_2886 (by decide) ?_
  refine g_iadd (pc := 2887) d_LAW_2887 ?_
  refine g_top (y := nI (j + 2)) (nI_add j 2) ?_
  refine g_sld (pc := 2888) (j := j + 2) (by omega) hl d_LAW_2888 ?_
  refine g_callV (k := k) (n := n) (kz := 0) (nz := 0) (pc := 2889) (ci := 7) (As := [.int _, .int _]) d_LAW_2889 rfl mv_MO_bestThumb st_LAW_352 rfl rfl (by decide) km rfl rfl (Nat.le_of_ble_eq_true rfl) hm (fun _ _ z => z.elim) (fun v h2 z => ?_)
  obtain ⟨yv, rfl, e17, hf, eJ, γ', s', L'⟩ := z
  refine g_istore (pc := 2892) (lv' := [(6, .int yv), (5, .int (nI code)), (4, .int (nI j)), (3, .ref (A 0)), (2, .ref (A 8)), (1, .ref (A 22)), (0, .ref (eXa E))]) d_LAW_2892 (by decide) rfl ?_
  refine g_aload_n (pc := 2894) d_LAW_2894 rfl 4 rfl ?_
  refine g_cV1 (pc := 2895) (ci := 7) (As := []) d_LAW_2895 rfl mv_MO_thrown st_LAW_171 rfl rfl (by decide) rfl rfl (Nat.le_of_ble_eq_true rfl) L'.1.2.1.1.1 (thr_ct L') ?_
  refine g_top e17 ?_
  refine g_iload (pc := 2898) d_LAW_2898 1 rfl ?_
  refine g_icmp_eq (pc := 2900) (tgt := 2905) d_LAW_2900 (by decide) (fun _ => ?_) (fun q => absurd rfl q)
  refine g_iload (pc := 2905) d_LAW_2905 1 rfl ?_
  refine g_if_ne (pc := 2907) (tgt := 2922) d_LAW_2907 (by decide) (fun q => ?_) (fun q => ?_)
  · skip
    refine g_goto (pc := 2922) (tgt := 3284) d_LAW_2922 (by decide) ?_
    refine g_perm [2, 3, 4, 5, 6] rfl ?_
    exact kk _ ⟨γ', s', L'⟩
  · have c0 := code0 hcd q
    refine g_aload_n (pc := 2910) d_LAW_2910 rfl 3 rfl ?_
    refine g_iconst (pc := 2911) (v := 0) d_LAW_2911 (by decide) ?_
    refine g_laload (pc := 2912) d_LAW_2912 L'.1.2.1.2.2.2.1 (z_vp L'.1.2.1.2.2.2.2) ?_
    refine g_iload (pc := 2913) d_LAW_2913 0 rfl ?_
    refine g_i2l (pc := 2915) d_LAW_2915 ?_
    refine g_lcmp (pc := 2916) d_LAW_2916 ?_
    refine g_top (y := 0) (by
      show lg_cmp (hJ h2 (A 0) 0) yv.toInt64 = 0
      rw [eJ, hz c0, ← hf c0]
      exact lg_self _) ?_
    refine g_if_eq (pc := 2917) (tgt := 2922) d_LAW_2917 (by decide) (fun _ => ?_) (fun q => absurd rfl q)
    refine g_goto (pc := 2922) (tgt := 3284) d_LAW_2922 (by decide) ?_
    refine g_perm [2, 3, 4, 5, 6] rfl ?_
    exact kk _ ⟨γ', s', L'⟩
theorem lc_55 {E : En} {h : Hp} {A : Nat → Nat} {j c k n : Nat} {PP : Option Value → Hp → Prop} {X : String → Hp → Prop} (hl : eXl E < 2 ^ 31) (hj : j + 5 < eXl E) (k_x : hK h (A 22) = 1) (a : AnsD E m_HS_mostFined m_MO_mostFined [] h A c) (kk : ∀ h1, LOK h1 A (c + 1) → G E m_LAW 3284 [(4, .int (nI j)), (3, .ref (A 0)), (2, .ref (A 8)), (1, .ref (A 22)), (0, .ref (eXa E))] [] h1 k n PP X) : G E m_LAW 2925 [(4, .int (nI j)), (3, .ref (A 0)), (2, .ref (A 8)), (1, .ref (A 22)), (0, .ref (eXa E))] [] h k n PP X := by
  refine g_aload_n (pc := 2925) d_LAW_2925 rfl 3 rfl ?_
  refine g_callV (k := k) (n := n) (kz := 0) (nz := 0) (pc := 2926) (ci := 0) (As := []) d_LAW_2926 rfl mv_HS_mostFined st_LAW_353 rfl rfl (by decide) k_x rfl rfl (Nat.le_of_ble_eq_true rfl) a (fun _ _ z => z.elim) (fun v h1 z => ?_)
  obtain ⟨z9, rfl, km, hm⟩ := z
  refine g_aload_n (pc := 2929) d_LAW_2929 rfl 2 rfl ?_
  refine g_callV (k := k) (n := n) (kz := 0) (nz := 0) (pc := 2930) (ci := 7) (As := []) d_LAW_2930 rfl mv_MO_mostFined st_LAW_356 rfl rfl (by decide) km rfl rfl (Nat.le_of_ble_eq_true rfl) hm (fun _ _ z => z.elim) (fun v h2 z => ?_)
  obtain ⟨rfl, L'⟩ := z
  refine g_icmp_eq (pc := 2933) (tgt := 3284) d_LAW_2933 (by decide) (fun _ => ?_) (fun q => absurd rfl q)
  exact kk _ L'
theorem lc_56 {E : En} {h : Hp} {A : Nat → Nat} {j c k n : Nat} {PP : Option Value → Hp → Prop} {X : String → Hp → Prop} (hl : eXl E < 2 ^ 31) (hj : j + 5 < eXl E) (a : AnsW E m_LW_ounces m_MO_ounces fI [.int (eXs E (j + 1))] h A c) (kk : ∀ h1, LOK h1 A (c + 1) → G E m_LAW 3284 [(4, .int (nI j)), (3, .ref (A 0)), (2, .ref (A 8)), (1, .ref (A 22)), (0, .ref (eXa E))] [] h1 k n PP X) : G E m_LAW 2938 [(4, .int (nI j)), (3, .ref (A 0)), (2, .ref (A 8)), (1, .ref (A 22)), (0, .ref (eXa E))] [] h (k + 11) (n + 156) PP X := by
  refine g_aload_n (pc := 2938) d_LAW_2938 rfl 3 rfl ?_
  refine g_aload_n (pc := 2939) d_LAW_2939 rfl 4 rfl ?_
  refine g_iload (pc := 2940) d_LAW_2940 0 rfl ?_
  refine g_iconst (pc := 2942) (v := 1) d_LAW_2942 (by decide) ?_
  refine g_iadd (pc := 2943) d_LAW_2943 ?_
  refine g_top (y := nI (j + 1)) (nI_add j 1) ?_
  refine g_sld (pc := 2944) (j := j + 1) (by omega) hl d_LAW_2944 ?_
  refine g_aload_n (pc := 2945) d_LAW_2945 rfl 1 rfl ?_
  refine g_callSX (k := k) (n := n) (kz := 11) (nz := 156) (pc := 2946) (As := [.ref _, .int _, .ref _]) d_LAW_2946 rfl mx_LW_ounces st_LAW_357 rfl rfl (Nat.le_of_ble_eq_true rfl) a (fun _ _ z => z.elim) (fun v h1 z => ?_)
  obtain ⟨code, z, hcd, rfl, km, hz, hm⟩ := z
  refine g_istore (pc := 2949) (lv' := [(5, .int (nI code)), (4, .int (nI j)), (3, .ref (A 0)), (2, .ref (A 8)), (1, .ref (A 22)), (0, .ref (eXa E))]) d_LAW_2949 (by decide) rfl ?_
  refine g_aload_n (pc := 2951) d_LAW_2951 rfl 3 rfl ?_
  refine g_aload_n (pc := 2952) d_LAW_2952 rfl 5 rfl ?_
  refine g_iload (pc := 2953) d_LAW_2953 1 rfl ?_
  refine g_iconst (pc := 2955) (v := 1) d_LAW_2955 (by decide) ?_
  refine g_iadd (pc := 2956) d_LAW_2956 ?_
  refine g_top (y := nI (j + 1)) (nI_add j 1) ?_
  refine g_sld (pc := 2957) (j := j + 1) (by omega) hl d_LAW_2957 ?_
  refine g_callV (k := k) (n := n) (kz := 0) (nz := 0) (pc := 2958) (ci := 7) (As := [.int _]) d_LAW_2958 rfl mv_MO_ounces st_LAW_359 rfl rfl (by decide) km rfl rfl (Nat.le_of_ble_eq_true rfl) hm (fun _ _ z => z.elim) (fun v h2 z => ?_)
  obtain ⟨yv, rfl, e17, hf, eJ, γ', s', L'⟩ := z
  refine g_istore (pc := 2961) (lv' := [(6, .int yv), (5, .int (nI code)), (4, .int (nI j)), (3, .ref (A 0)), (2, .ref (A 8)), (1, .ref (A 22)), (0, .ref (eXa E))]) d_LAW_2961 (by decide) rfl ?_
  refine g_aload_n (pc := 2963) d_LAW_2963 rfl 4 rfl ?_
  refine g_cV1 (pc := 2964) (ci := 7) (As := []) d_LAW_2964 rfl mv_MO_thrown st_LAW_171 rfl rfl (by decide) rfl rfl (Nat.le_of_ble_eq_true rfl) L'.1.2.1.1.1 (thr_ct L') ?_
  refine g_top e17 ?_
  refine g_iload (pc := 2967) d_LAW_2967 1 rfl ?_
  refine g_icmp_eq (pc := 2969) (tgt := 2974) d_LAW_2969 (by decide) (fun _ => ?_) (fun q => absurd rfl q)
  refine g_iload (pc := 2974) d_LAW_2974 1 rfl ?_
  refine g_if_ne (pc := 2976) (tgt := 2991) d_LAW_2976 (by decide) (fun q => ?_) (fun q => ?_)
  · skip
    refine g_goto (pc := 2991) (tgt := 3284) d_LAW_2991 (by decide) ?_
    refine g_perm [2, 3, 4, 5, 6] rfl ?_
    exact kk _ ⟨γ', s', L'⟩
  · have c0 := code0 hcd q
    refine g_aload_n (pc := 2979) d_LAW_2979 rfl 3 rfl ?_
    refine g_iconst (pc := 2980) (v := 0) d_LAW_2980 (by decide) ?_
    refine g_laload (pc := 2981) d_LAW_2981 L'.1.2.1.2.2.2.1 (z_vp L'.1.2.1.2.2.2.2) ?_
    refine g_iload (pc := 2982) d_LAW_2982 0 rfl ?_
    refine g_i2l (pc := 2984) d_LAW_2984 ?_
    refine g_lcmp (pc := 2985) d_LAW_2985 ?_
    refine g_top (y := 0) (by
      show lg_cmp (hJ h2 (A 0) 0) yv.toInt64 = 0
      rw [eJ, hz c0, ← hf c0]
      exact lg_self _) ?_
    refine g_if_eq (pc := 2986) (tgt := 2991) d_LAW_2986 (by decide) (fun _ => ?_) (fun q => absurd rfl q)
    refine g_goto (pc := 2991) (tgt := 3284) d_LAW_2991 (by decide) ?_
    refine g_perm [2, 3, 4, 5, 6] rfl ?_
    exact kk _ ⟨γ', s', L'⟩
theorem lc_57 {E : En} {h : Hp} {A : Nat → Nat} {j c k n : Nat} {PP : Option Value → Hp → Prop} {X : String → Hp → Prop} (hl : eXl E < 2 ^ 31) (hj : j + 5 < eXl E) (a : AnsW E m_LW_expiringStamps m_MO_expiringStamps fI [.int (eXs E (j + 1))] h A c) (kk : ∀ h1, LOK h1 A (c + 1) → G E m_LAW 3284 [(4, .int (nI j)), (3, .ref (A 0)), (2, .ref (A 8)), (1, .ref (A 22)), (0, .ref (eXa E))] [] h1 k n PP X) : G E m_LAW 2994 [(4, .int (nI j)), (3, .ref (A 0)), (2, .ref (A 8)), (1, .ref (A 22)), (0, .ref (eXa E))] [] h (k + 11) (n + 156) PP X := by
  refine g_aload_n (pc := 2994) d_LAW_2994 rfl 3 rfl ?_
  refine g_aload_n (pc := 2995) d_LAW_2995 rfl 4 rfl ?_
  refine g_iload (pc := 2996) d_LAW_2996 0 rfl ?_
  refine g_iconst (pc := 2998) (v := 1) d_LAW_2998 (by decide) ?_
  refine g_iadd (pc := 2999) d_LAW_2999 ?_
  refine g_top (y := nI (j + 1)) (nI_add j 1) ?_
  refine g_sld (pc := 3000) (j := j + 1) (by omega) hl d_LAW_3000 ?_
  refine g_aload_n (pc := 3001) d_LAW_3001 rfl 1 rfl ?_
  refine g_callSX (k := k) (n := n) (kz := 11) (nz := 156) (pc := 3002) (As := [.ref _, .int _, .ref _]) d_LAW_3002 rfl mx_LW_expiringStamps st_LAW_360 rfl rfl (Nat.le_of_ble_eq_true rfl) a (fun _ _ z => z.elim) (fun v h1 z => ?_)
  obtain ⟨code, z, hcd, rfl, km, hz, hm⟩ := z
  refine g_istore (pc := 3005) (lv' := [(5, .int (nI code)), (4, .int (nI j)), (3, .ref (A 0)), (2, .ref (A 8)), (1, .ref (A 22)), (0, .ref (eXa E))]) d_LAW_3005 (by decide) rfl ?_
  refine g_aload_n (pc := 3007) d_LAW_3007 rfl 3 rfl ?_
  refine g_aload_n (pc := 3008) d_LAW_3008 rfl 5 rfl ?_
  refine g_iload (pc := 3009) d_LAW_3009 1 rfl ?_
  refine g_iconst (pc := 3011) (v := 1) d_LAW_3011 (by decide) ?_
  refine g_iadd (pc := 3012) d_LAW_3012 ?_
  refine g_top (y := nI (j + 1)) (nI_add j 1) ?_
  refine g_sld (pc := 3013) (j := j + 1) (by omega) hl d_LAW_3013 ?_
  refine g_callV (k := k) (n := n) (kz := 0) (nz := 0) (pc := 3014) (ci := 7) (As := [.int _]) d_LAW_3014 rfl mv_MO_expiringStamps st_LAW_362 rfl rfl (by decide) km rfl rfl (Nat.le_of_ble_eq_true rfl) hm (fun _ _ z => z.elim) (fun v h2 z => ?_)
  obtain ⟨yv, rfl, e17, hf, eJ, γ', s', L'⟩ := z
  refine g_istore (pc := 3017) (lv' := [(6, .int yv), (5, .int (nI code)), (4, .int (nI j)), (3, .ref (A 0)), (2, .ref (A 8)), (1, .ref (A 22)), (0, .ref (eXa E))]) d_LAW_3017 (by decide) rfl ?_
  refine g_aload_n (pc := 3019) d_LAW_3019 rfl 4 rfl ?_
  refine g_cV1 (pc := 3020) (ci := 7) (As := []) d_LAW_3020 rfl mv_MO_thrown st_LAW_171 rfl rfl (by decide) rfl rfl (Nat.le_of_ble_eq_true rfl) L'.1.2.1.1.1 (thr_ct L') ?_
  refine g_top e17 ?_
  refine g_iload (pc := 3023) d_LAW_3023 1 rfl ?_
  refine g_icmp_eq (pc := 3025) (tgt := 3030) d_LAW_3025 (by decide) (fun _ => ?_) (fun q => absurd rfl q)
  refine g_iload (pc := 3030) d_LAW_3030 1 rfl ?_
  refine g_if_ne (pc := 3032) (tgt := 3047) d_LAW_3032 (by decide) (fun q => ?_) (fun q => ?_)
  · skip
    refine g_goto (pc := 3047) (tgt := 3284) d_LAW_3047 (by decide) ?_
    refine g_perm [2, 3, 4, 5, 6] rfl ?_
    exact kk _ ⟨γ', s', L'⟩
  · have c0 := code0 hcd q
    refine g_aload_n (pc := 3035) d_LAW_3035 rfl 3 rfl ?_
    refine g_iconst (pc := 3036) (v := 0) d_LAW_3036 (by decide) ?_
    refine g_laload (pc := 3037) d_LAW_3037 L'.1.2.1.2.2.2.1 (z_vp L'.1.2.1.2.2.2.2) ?_
    refine g_iload (pc := 3038) d_LAW_3038 0 rfl ?_
    refine g_i2l (pc := 3040) d_LAW_3040 ?_
    refine g_lcmp (pc := 3041) d_LAW_3041 ?_
    refine g_top (y := 0) (by
      show lg_cmp (hJ h2 (A 0) 0) yv.toInt64 = 0
      rw [eJ, hz c0, ← hf c0]
      exact lg_self _) ?_
    refine g_if_eq (pc := 3042) (tgt := 3047) d_LAW_3042 (by decide) (fun _ => ?_) (fun q => absurd rfl q)
    refine g_goto (pc := 3047) (tgt := 3284) d_LAW_3047 (by decide) ?_
    refine g_perm [2, 3, 4, 5, 6] rfl ?_
    exact kk _ ⟨γ', s', L'⟩
theorem lc_58 {E : En} {h : Hp} {A : Nat → Nat} {j c k n : Nat} {PP : Option Value → Hp → Prop} {X : String → Hp → Prop} (hl : eXl E < 2 ^ 31) (hj : j + 5 < eXl E) (a : AnsW E m_LW_daysUntilClosed m_MO_daysUntilClosed fI [.int (eXs E (j + 1))] h A c) (kk : ∀ h1, LOK h1 A (c + 1) → G E m_LAW 3284 [(4, .int (nI j)), (3, .ref (A 0)), (2, .ref (A 8)), (1, .ref (A 22)), (0, .ref (eXa E))] [] h1 k n PP X) : G E m_LAW 3050 [(4, .int (nI j)), (3, .ref (A 0)), (2, .ref (A 8)), (1, .ref (A 22)), (0, .ref (eXa E))] [] h (k + 11) (n + 156) PP X := by
  refine g_aload_n (pc := 3050) d_LAW_3050 rfl 3 rfl ?_
  refine g_aload_n (pc := 3051) d_LAW_3051 rfl 4 rfl ?_
  refine g_iload (pc := 3052) d_LAW_3052 0 rfl ?_
  refine g_iconst (pc := 3054) (v := 1) d_LAW_3054 (by decide) ?_
  refine g_iadd (pc := 3055) d_LAW_3055 ?_
  refine g_top (y := nI (j + 1)) (nI_add j 1) ?_
  refine g_sld (pc := 3056) (j := j + 1) (by omega) hl d_LAW_3056 ?_
  refine g_aload_n (pc := 3057) d_LAW_3057 rfl 1 rfl ?_
  refine g_callSX (k := k) (n := n) (kz := 11) (nz := 156) (pc := 3058) (As := [.ref _, .int _, .ref _]) d_LAW_3058 rfl mx_LW_daysUntilClosed st_LAW_363 rfl rfl (Nat.le_of_ble_eq_true rfl) a (fun _ _ z => z.elim) (fun v h1 z => ?_)
  obtain ⟨code, z, hcd, rfl, km, hz, hm⟩ := z
  refine g_istore (pc := 3061) (lv' := [(5, .int (nI code)), (4, .int (nI j)), (3, .ref (A 0)), (2, .ref (A 8)), (1, .ref (A 22)), (0, .ref (eXa E))]) d_LAW_3061 (by decide) rfl ?_
  refine g_aload_n (pc := 3063) d_LAW_3063 rfl 3 rfl ?_
  refine g_aload_n (pc := 3064) d_LAW_3064 rfl 5 rfl ?_
  refine g_iload (pc := 3065) d_LAW_3065 1 rfl ?_
  refine g_iconst (pc := 3067) (v := 1) d_LAW_3067 (by decide) ?_
  refine g_iadd (pc := 3068) d_LAW_3068 ?_
  refine g_top (y := nI (j + 1)) (nI_add j 1) ?_
  refine g_sld (pc := 3069) (j := j + 1) (by omega) hl d_LAW_3069 ?_
  refine g_callV (k := k) (n := n) (kz := 0) (nz := 0) (pc := 3070) (ci := 7) (As := [.int _]) d_LAW_3070 rfl mv_MO_daysUntilClosed st_LAW_365 rfl rfl (by decide) km rfl rfl (Nat.le_of_ble_eq_true rfl) hm (fun _ _ z => z.elim) (fun v h2 z => ?_)
  obtain ⟨yv, rfl, e17, hf, eJ, γ', s', L'⟩ := z
  refine g_istore (pc := 3073) (lv' := [(6, .int yv), (5, .int (nI code)), (4, .int (nI j)), (3, .ref (A 0)), (2, .ref (A 8)), (1, .ref (A 22)), (0, .ref (eXa E))]) d_LAW_3073 (by decide) rfl ?_
  refine g_aload_n (pc := 3075) d_LAW_3075 rfl 4 rfl ?_
  refine g_cV1 (pc := 3076) (ci := 7) (As := []) d_LAW_3076 rfl mv_MO_thrown st_LAW_171 rfl rfl (by decide) rfl rfl (Nat.le_of_ble_eq_true rfl) L'.1.2.1.1.1 (thr_ct L') ?_
  refine g_top e17 ?_
  refine g_iload (pc := 3079) d_LAW_3079 1 rfl ?_
  refine g_icmp_eq (pc := 3081) (tgt := 3086) d_LAW_3081 (by decide) (fun _ => ?_) (fun q => absurd rfl q)
  refine g_iload (pc := 3086) d_LAW_3086 1 rfl ?_
  refine g_if_ne (pc := 3088) (tgt := 3103) d_LAW_3088 (by decide) (fun q => ?_) (fun q => ?_)
  · skip
    refine g_goto (pc := 3103) (tgt := 3284) d_LAW_3103 (by decide) ?_
    refine g_perm [2, 3, 4, 5, 6] rfl ?_
    exact kk _ ⟨γ', s', L'⟩
  · have c0 := code0 hcd q
    refine g_aload_n (pc := 3091) d_LAW_3091 rfl 3 rfl ?_
    refine g_iconst (pc := 3092) (v := 0) d_LAW_3092 (by decide) ?_
    refine g_laload (pc := 3093) d_LAW_3093 L'.1.2.1.2.2.2.1 (z_vp L'.1.2.1.2.2.2.2) ?_
    refine g_iload (pc := 3094) d_LAW_3094 0 rfl ?_
    refine g_i2l (pc := 3096) d_LAW_3096 ?_
    refine g_lcmp (pc := 3097) d_LAW_3097 ?_
    refine g_top (y := 0) (by
      show lg_cmp (hJ h2 (A 0) 0) yv.toInt64 = 0
      rw [eJ, hz c0, ← hf c0]
      exact lg_self _) ?_
    refine g_if_eq (pc := 3098) (tgt := 3103) d_LAW_3098 (by decide) (fun _ => ?_) (fun q => absurd rfl q)
    refine g_goto (pc := 3103) (tgt := 3284) d_LAW_3103 (by decide) ?_
    refine g_perm [2, 3, 4, 5, 6] rfl ?_
    exact kk _ ⟨γ', s', L'⟩
theorem lc_59 {E : En} {h : Hp} {A : Nat → Nat} {j c k n : Nat} {PP : Option Value → Hp → Prop} {X : String → Hp → Prop} (hl : eXl E < 2 ^ 31) (hj : j + 5 < eXl E) (k_x : hK h (A 22) = 1) (a : AnsD E m_HS_coinError m_MO_coinError [] h A c) (kk : ∀ h1, LOK h1 A (c + 1) → G E m_LAW 3284 [(4, .int (nI j)), (3, .ref (A 0)), (2, .ref (A 8)), (1, .ref (A 22)), (0, .ref (eXa E))] [] h1 k n PP X) : G E m_LAW 3106 [(4, .int (nI j)), (3, .ref (A 0)), (2, .ref (A 8)), (1, .ref (A 22)), (0, .ref (eXa E))] [] h k n PP X := by
  refine g_aload_n (pc := 3106) d_LAW_3106 rfl 3 rfl ?_
  refine g_callV (k := k) (n := n) (kz := 0) (nz := 0) (pc := 3107) (ci := 0) (As := []) d_LAW_3107 rfl mv_HS_coinError st_LAW_366 rfl rfl (by decide) k_x rfl rfl (Nat.le_of_ble_eq_true rfl) a (fun _ _ z => z.elim) (fun v h1 z => ?_)
  obtain ⟨z9, rfl, km, hm⟩ := z
  refine g_aload_n (pc := 3110) d_LAW_3110 rfl 2 rfl ?_
  refine g_callV (k := k) (n := n) (kz := 0) (nz := 0) (pc := 3111) (ci := 7) (As := []) d_LAW_3111 rfl mv_MO_coinError st_LAW_369 rfl rfl (by decide) km rfl rfl (Nat.le_of_ble_eq_true rfl) hm (fun _ _ z => z.elim) (fun v h2 z => ?_)
  obtain ⟨rfl, L'⟩ := z
  refine g_icmp_eq (pc := 3114) (tgt := 3284) d_LAW_3114 (by decide) (fun _ => ?_) (fun q => absurd rfl q)
  exact kk _ L'
theorem lc_60 {E : En} {h : Hp} {A : Nat → Nat} {j c k n : Nat} {PP : Option Value → Hp → Prop} {X : String → Hp → Prop} (hl : eXl E < 2 ^ 31) (hj : j + 5 < eXl E) {z : UInt64} (k_x : hK h (A 22) = 1) (a : AnsV E m_HS_meanExcess m_MO_meanExcess (.double z) h A c) (kk : ∀ h1, LOK h1 A (c + 1) → G E m_LAW 3284 [(4, .int (nI j)), (3, .ref (A 0)), (2, .ref (A 8)), (1, .ref (A 22)), (0, .ref (eXa E))] [] h1 k n PP X) : G E m_LAW 3119 [(4, .int (nI j)), (3, .ref (A 0)), (2, .ref (A 8)), (1, .ref (A 22)), (0, .ref (eXa E))] [] h k n PP X := by
  refine g_aload_n (pc := 3119) d_LAW_3119 rfl 3 rfl ?_
  refine g_callV (k := k) (n := n) (kz := 0) (nz := 0) (pc := 3120) (ci := 0) (As := []) d_LAW_3120 rfl mv_HS_meanExcess st_LAW_370 rfl rfl (by decide) k_x rfl rfl (Nat.le_of_ble_eq_true rfl) a (fun _ _ z => z.elim) (fun v h1 z9 => ?_)
  obtain ⟨rfl, km, hm⟩ := z9
  refine g_dstore (pc := 3123) (lv' := [(5, .double z), (4, .int (nI j)), (3, .ref (A 0)), (2, .ref (A 8)), (1, .ref (A 22)), (0, .ref (eXa E))]) d_LAW_3123 (by decide) rfl ?_
  refine g_aload_n (pc := 3125) d_LAW_3125 rfl 3 rfl ?_
  refine g_callV (k := k) (n := n) (kz := 0) (nz := 0) (pc := 3126) (ci := 7) (As := []) d_LAW_3126 rfl mv_MO_meanExcess st_LAW_374 rfl rfl (by decide) km rfl rfl (Nat.le_of_ble_eq_true rfl) hm (fun _ _ z => z.elim) (fun v h2 z9 => ?_)
  obtain ⟨rfl, L'⟩ := z9
  refine g_dstore (pc := 3129) (lv' := [(7, .double z), (5, .double z), (4, .int (nI j)), (3, .ref (A 0)), (2, .ref (A 8)), (1, .ref (A 22)), (0, .ref (eXa E))]) d_LAW_3129 (by decide) rfl ?_
  refine g_dload (pc := 3131) d_LAW_3131 1 rfl ?_
  refine g_dload (pc := 3133) d_LAW_3133 0 rfl ?_
  refine g_dcmp (pc := 3135) d_LAW_3135 ?_
  refine g_if_eq (pc := 3136) (tgt := 3157) d_LAW_3136 (by decide) (fun q => ?_) (fun q => ?_)
  · skip
    refine g_goto (pc := 3157) (tgt := 3284) d_LAW_3157 (by decide) ?_
    refine g_perm [2, 3, 4, 5, 6] rfl ?_
    exact kk _ L'
  · skip
    refine g_dload (pc := 3139) d_LAW_3139 1 rfl ?_
    refine g_dload (pc := 3141) d_LAW_3141 1 rfl ?_
    refine g_dcmp (pc := 3143) d_LAW_3143 ?_
    refine g_if_eq (pc := 3144) (tgt := 3155) d_LAW_3144 (by decide) (fun q2 => absurd q2 q) (fun _ => ?_)
    refine g_dload (pc := 3147) d_LAW_3147 0 rfl ?_
    refine g_dload (pc := 3149) d_LAW_3149 0 rfl ?_
    refine g_dcmp (pc := 3151) d_LAW_3151 ?_
    refine g_if_ne (pc := 3152) (tgt := 3157) d_LAW_3152 (by decide) (fun _ => ?_) (fun q2 => absurd q2 q)
    refine g_goto (pc := 3157) (tgt := 3284) d_LAW_3157 (by decide) ?_
    refine g_perm [2, 3, 4, 5, 6] rfl ?_
    exact kk _ L'
theorem lc_61 {E : En} {h : Hp} {A : Nat → Nat} {j c k n : Nat} {PP : Option Value → Hp → Prop} {X : String → Hp → Prop} (hl : eXl E < 2 ^ 31) (hj : j + 5 < eXl E) {z : UInt32} (nz : vf_n64 (FP.f2d z)) (k_x : hK h (A 22) = 1) (a : AnsV E m_HS_trueShare m_MO_trueShare (.float z) h A c) (kk : ∀ h1, LOK h1 A (c + 1) → G E m_LAW 3284 [(4, .int (nI j)), (3, .ref (A 0)), (2, .ref (A 8)), (1, .ref (A 22)), (0, .ref (eXa E))] [] h1 k n PP X) : G E m_LAW 3160 [(4, .int (nI j)), (3, .ref (A 0)), (2, .ref (A 8)), (1, .ref (A 22)), (0, .ref (eXa E))] [] h k n PP X := by
  refine g_aload_n (pc := 3160) d_LAW_3160 rfl 3 rfl ?_
  refine g_callV (k := k) (n := n) (kz := 0) (nz := 0) (pc := 3161) (ci := 0) (As := []) d_LAW_3161 rfl mv_HS_trueShare st_LAW_375 rfl rfl (by decide) k_x rfl rfl (Nat.le_of_ble_eq_true rfl) a (fun _ _ z => z.elim) (fun v h1 z9 => ?_)
  obtain ⟨rfl, km, hm⟩ := z9
  refine g_f2d (pc := 3164) d_LAW_3164 nz ?_
  refine g_dstore (pc := 3165) (lv' := [(5, .double (FP.f2d z)), (4, .int (nI j)), (3, .ref (A 0)), (2, .ref (A 8)), (1, .ref (A 22)), (0, .ref (eXa E))]) d_LAW_3165 (by decide) rfl ?_
  refine g_aload_n (pc := 3167) d_LAW_3167 rfl 3 rfl ?_
  refine g_callV (k := k) (n := n) (kz := 0) (nz := 0) (pc := 3168) (ci := 7) (As := []) d_LAW_3168 rfl mv_MO_trueShare st_LAW_379 rfl rfl (by decide) km rfl rfl (Nat.le_of_ble_eq_true rfl) hm (fun _ _ z => z.elim) (fun v h2 z9 => ?_)
  obtain ⟨rfl, L'⟩ := z9
  refine g_f2d (pc := 3171) d_LAW_3171 nz ?_
  refine g_dstore (pc := 3172) (lv' := [(7, .double (FP.f2d z)), (5, .double (FP.f2d z)), (4, .int (nI j)), (3, .ref (A 0)), (2, .ref (A 8)), (1, .ref (A 22)), (0, .ref (eXa E))]) d_LAW_3172 (by decide) rfl ?_
  refine g_dload (pc := 3174) d_LAW_3174 1 rfl ?_
  refine g_dload (pc := 3176) d_LAW_3176 0 rfl ?_
  refine g_dcmp (pc := 3178) d_LAW_3178 ?_
  refine g_if_eq (pc := 3179) (tgt := 3200) d_LAW_3179 (by decide) (fun q => ?_) (fun q => ?_)
  · skip
    refine g_goto (pc := 3200) (tgt := 3284) d_LAW_3200 (by decide) ?_
    refine g_perm [2, 3, 4, 5, 6] rfl ?_
    exact kk _ L'
  · skip
    refine g_dload (pc := 3182) d_LAW_3182 1 rfl ?_
    refine g_dload (pc := 3184) d_LAW_3184 1 rfl ?_
    refine g_dcmp (pc := 3186) d_LAW_3186 ?_
    refine g_if_eq (pc := 3187) (tgt := 3198) d_LAW_3187 (by decide) (fun q2 => absurd q2 q) (fun _ => ?_)
    refine g_dload (pc := 3190) d_LAW_3190 0 rfl ?_
    refine g_dload (pc := 3192) d_LAW_3192 0 rfl ?_
    refine g_dcmp (pc := 3194) d_LAW_3194 ?_
    refine g_if_ne (pc := 3195) (tgt := 3200) d_LAW_3195 (by decide) (fun _ => ?_) (fun q2 => absurd q2 q)
    refine g_goto (pc := 3200) (tgt := 3284) d_LAW_3200 (by decide) ?_
    refine g_perm [2, 3, 4, 5, 6] rfl ?_
    exact kk _ L'
theorem lc_62 {E : En} {h : Hp} {A : Nat → Nat} {j c k n : Nat} {PP : Option Value → Hp → Prop} {X : String → Hp → Prop} (hl : eXl E < 2 ^ 31) (hj : j + 5 < eXl E) (a : AnsW E m_LW_writeShop m_MO_writeShop fI [.int (eXs E (j + 1))] h A c) (kk : ∀ h1, LOK h1 A (c + 1) → G E m_LAW 3284 [(4, .int (nI j)), (3, .ref (A 0)), (2, .ref (A 8)), (1, .ref (A 22)), (0, .ref (eXa E))] [] h1 k n PP X) : G E m_LAW 3203 [(4, .int (nI j)), (3, .ref (A 0)), (2, .ref (A 8)), (1, .ref (A 22)), (0, .ref (eXa E))] [] h (k + 11) (n + 156) PP X := by
  refine g_aload_n (pc := 3203) d_LAW_3203 rfl 3 rfl ?_
  refine g_aload_n (pc := 3204) d_LAW_3204 rfl 4 rfl ?_
  refine g_iload (pc := 3205) d_LAW_3205 0 rfl ?_
  refine g_iconst (pc := 3207) (v := 1) d_LAW_3207 (by decide) ?_
  refine g_iadd (pc := 3208) d_LAW_3208 ?_
  refine g_top (y := nI (j + 1)) (nI_add j 1) ?_
  refine g_sld (pc := 3209) (j := j + 1) (by omega) hl d_LAW_3209 ?_
  refine g_aload_n (pc := 3210) d_LAW_3210 rfl 1 rfl ?_
  refine g_callSX (k := k) (n := n) (kz := 11) (nz := 156) (pc := 3211) (As := [.ref _, .int _, .ref _]) d_LAW_3211 rfl mx_LW_writeShop st_LAW_380 rfl rfl (Nat.le_of_ble_eq_true rfl) a (fun _ _ z => z.elim) (fun v h1 z => ?_)
  obtain ⟨code, z, hcd, rfl, km, hz, hm⟩ := z
  refine g_istore (pc := 3214) (lv' := [(5, .int (nI code)), (4, .int (nI j)), (3, .ref (A 0)), (2, .ref (A 8)), (1, .ref (A 22)), (0, .ref (eXa E))]) d_LAW_3214 (by decide) rfl ?_
  refine g_aload_n (pc := 3216) d_LAW_3216 rfl 3 rfl ?_
  refine g_aload_n (pc := 3217) d_LAW_3217 rfl 5 rfl ?_
  refine g_iload (pc := 3218) d_LAW_3218 1 rfl ?_
  refine g_iconst (pc := 3220) (v := 1) d_LAW_3220 (by decide) ?_
  refine g_iadd (pc := 3221) d_LAW_3221 ?_
  refine g_top (y := nI (j + 1)) (nI_add j 1) ?_
  refine g_sld (pc := 3222) (j := j + 1) (by omega) hl d_LAW_3222 ?_
  refine g_callV (k := k) (n := n) (kz := 0) (nz := 0) (pc := 3223) (ci := 7) (As := [.int _]) d_LAW_3223 rfl mv_MO_writeShop st_LAW_382 rfl rfl (by decide) km rfl rfl (Nat.le_of_ble_eq_true rfl) hm (fun _ _ z => z.elim) (fun v h2 z => ?_)
  obtain ⟨yv, rfl, e17, hf, eJ, γ', s', L'⟩ := z
  refine g_istore (pc := 3226) (lv' := [(6, .int yv), (5, .int (nI code)), (4, .int (nI j)), (3, .ref (A 0)), (2, .ref (A 8)), (1, .ref (A 22)), (0, .ref (eXa E))]) d_LAW_3226 (by decide) rfl ?_
  refine g_aload_n (pc := 3228) d_LAW_3228 rfl 4 rfl ?_
  refine g_cV1 (pc := 3229) (ci := 7) (As := []) d_LAW_3229 rfl mv_MO_thrown st_LAW_171 rfl rfl (by decide) rfl rfl (Nat.le_of_ble_eq_true rfl) L'.1.2.1.1.1 (thr_ct L') ?_
  refine g_top e17 ?_
  refine g_iload (pc := 3232) d_LAW_3232 1 rfl ?_
  refine g_icmp_eq (pc := 3234) (tgt := 3239) d_LAW_3234 (by decide) (fun _ => ?_) (fun q => absurd rfl q)
  refine g_iload (pc := 3239) d_LAW_3239 1 rfl ?_
  refine g_if_ne (pc := 3241) (tgt := 3256) d_LAW_3241 (by decide) (fun q => ?_) (fun q => ?_)
  · skip
    refine g_goto (pc := 3256) (tgt := 3284) d_LAW_3256 (by decide) ?_
    refine g_perm [2, 3, 4, 5, 6] rfl ?_
    exact kk _ ⟨γ', s', L'⟩
  · have c0 := code0 hcd q
    refine g_aload_n (pc := 3244) d_LAW_3244 rfl 3 rfl ?_
    refine g_iconst (pc := 3245) (v := 0) d_LAW_3245 (by decide) ?_
    refine g_laload (pc := 3246) d_LAW_3246 L'.1.2.1.2.2.2.1 (z_vp L'.1.2.1.2.2.2.2) ?_
    refine g_iload (pc := 3247) d_LAW_3247 0 rfl ?_
    refine g_i2l (pc := 3249) d_LAW_3249 ?_
    refine g_lcmp (pc := 3250) d_LAW_3250 ?_
    refine g_top (y := 0) (by
      show lg_cmp (hJ h2 (A 0) 0) yv.toInt64 = 0
      rw [eJ, hz c0, ← hf c0]
      exact lg_self _) ?_
    refine g_if_eq (pc := 3251) (tgt := 3256) d_LAW_3251 (by decide) (fun _ => ?_) (fun q => absurd rfl q)
    refine g_goto (pc := 3256) (tgt := 3284) d_LAW_3256 (by decide) ?_
    refine g_perm [2, 3, 4, 5, 6] rfl ?_
    exact kk _ ⟨γ', s', L'⟩
theorem lc_63 {E : En} {h : Hp} {A : Nat → Nat} {j c k n : Nat} {PP : Option Value → Hp → Prop} {X : String → Hp → Prop} (hl : eXl E < 2 ^ 31) (hj : j + 5 < eXl E) (k_x : hK h (A 22) = 1) (a : AnsD E m_HS_outputByte m_MO_outputByte [.int (eXs E (j + 1))] h A c) (kk : ∀ h1, LOK h1 A (c + 1) → G E m_LAW 3284 [(4, .int (nI j)), (3, .ref (A 0)), (2, .ref (A 8)), (1, .ref (A 22)), (0, .ref (eXa E))] [] h1 k n PP X) : G E m_LAW 3259 [(4, .int (nI j)), (3, .ref (A 0)), (2, .ref (A 8)), (1, .ref (A 22)), (0, .ref (eXa E))] [] h k n PP X := by
  refine g_aload_n (pc := 3259) d_LAW_3259 rfl 3 rfl ?_
  refine g_aload_n (pc := 3260) d_LAW_3260 rfl 4 rfl ?_
  refine g_iload (pc := 3261) d_LAW_3261 0 rfl ?_
  refine g_iconst (pc := 3263) (v := 1) d_LAW_3263 (by decide) ?_
  refine g_iadd (pc := 3264) d_LAW_3264 ?_
  refine g_top (y := nI (j + 1)) (nI_add j 1) ?_
  refine g_sld (pc := 3265) (j := j + 1) (by omega) hl d_LAW_3265 ?_
  refine g_callV (k := k) (n := n) (kz := 0) (nz := 0) (pc := 3266) (ci := 0) (As := [.int _]) d_LAW_3266 rfl mv_HS_outputByte st_LAW_383 rfl rfl (by decide) k_x rfl rfl (Nat.le_of_ble_eq_true rfl) a (fun _ _ z => z.elim) (fun v h1 z => ?_)
  obtain ⟨z9, rfl, km, hm⟩ := z
  refine g_aload_n (pc := 3269) d_LAW_3269 rfl 2 rfl ?_
  refine g_aload_n (pc := 3270) d_LAW_3270 rfl 4 rfl ?_
  refine g_iload (pc := 3271) d_LAW_3271 0 rfl ?_
  refine g_iconst (pc := 3273) (v := 1) d_LAW_3273 (by decide) ?_
  refine g_iadd (pc := 3274) d_LAW_3274 ?_
  refine g_top (y := nI (j + 1)) (nI_add j 1) ?_
  refine g_sld (pc := 3275) (j := j + 1) (by omega) hl d_LAW_3275 ?_
  refine g_callV (k := k) (n := n) (kz := 0) (nz := 0) (pc := 3276) (ci := 7) (As := [.int _]) d_LAW_3276 rfl mv_MO_outputByte st_LAW_386 rfl rfl (by decide) km rfl rfl (Nat.le_of_ble_eq_true rfl) hm (fun _ _ z => z.elim) (fun v h2 z => ?_)
  obtain ⟨rfl, L'⟩ := z
  refine g_icmp_eq (pc := 3279) (tgt := 3284) d_LAW_3279 (by decide) (fun _ => ?_) (fun q => absurd rfl q)
  exact kk _ L'
