/-! facts, by program: classes; the cells that the two constructors make, in their order; links; methods -/
theorem uwX0 : ∀ w ∈ u_ws RX0 TX0 7, w ∈ ALLW := fun w hw => by
  obtain ⟨k, hk, rfl⟩ := List.mem_map.mp hw
  have hk := List.mem_range.mp hk
  exact match k, hk with
    | 0, _ => w_457
    | 1, _ => w_459
    | 2, _ => w_461
    | 3, _ => w_463
    | 4, _ => w_465
    | 5, _ => w_467
    | 6, _ => w_469
    | k + 7, h => absurd h (by omega)
theorem clX0 : ClsOk 0 RX0 TX0 7 tyX0 := ⟨rfl, uwX0, tyX0_ok, nmX0, rfl, by decide +kernel, by decide +kernel⟩
theorem uwX1 : ∀ w ∈ u_ws RX1 TX1 4, w ∈ ALLW := fun w hw => by
  obtain ⟨k, hk, rfl⟩ := List.mem_map.mp hw
  have hk := List.mem_range.mp hk
  exact match k, hk with
    | 0, _ => w_371
    | 1, _ => w_373
    | 2, _ => w_375
    | 3, _ => w_377
    | k + 4, h => absurd h (by omega)
theorem clX1 : ClsOk 1 RX1 TX1 4 tyX1 := ⟨rfl, uwX1, tyX1_ok, nmX1, rfl, by decide +kernel, by decide +kernel⟩
theorem uwX2 : ∀ w ∈ u_ws RX2 TX2 5, w ∈ ALLW := fun w hw => by
  obtain ⟨k, hk, rfl⟩ := List.mem_map.mp hw
  have hk := List.mem_range.mp hk
  exact match k, hk with
    | 0, _ => w_259
    | 1, _ => w_261
    | 2, _ => w_263
    | 3, _ => w_265
    | 4, _ => w_267
    | k + 5, h => absurd h (by omega)
theorem clX2 : ClsOk 2 RX2 TX2 5 tyX2 := ⟨rfl, uwX2, tyX2_ok, nmX2, rfl, by decide +kernel, by decide +kernel⟩
theorem uwX3 : ∀ w ∈ u_ws RX3 TX3 7, w ∈ ALLW := fun w hw => by
  obtain ⟨k, hk, rfl⟩ := List.mem_map.mp hw
  have hk := List.mem_range.mp hk
  exact match k, hk with
    | 0, _ => w_346
    | 1, _ => w_348
    | 2, _ => w_350
    | 3, _ => w_352
    | 4, _ => w_354
    | 5, _ => w_356
    | 6, _ => w_358
    | k + 7, h => absurd h (by omega)
theorem clX3 : ClsOk 3 RX3 TX3 7 tyX3 := ⟨rfl, uwX3, tyX3_ok, nmX3, rfl, by decide +kernel, by decide +kernel⟩
theorem uwX4 : ∀ w ∈ u_ws RX4 TX4 14, w ∈ ALLW := fun w hw => by
  obtain ⟨k, hk, rfl⟩ := List.mem_map.mp hw
  have hk := List.mem_range.mp hk
  exact match k, hk with
    | 0, _ => w_299
    | 1, _ => w_301
    | 2, _ => w_303
    | 3, _ => w_305
    | 4, _ => w_307
    | 5, _ => w_309
    | 6, _ => w_311
    | 7, _ => w_313
    | 8, _ => w_315
    | 9, _ => w_317
    | 10, _ => w_319
    | 11, _ => w_321
    | 12, _ => w_323
    | 13, _ => w_325
    | k + 14, h => absurd h (by omega)
theorem clX4 : ClsOk 4 RX4 TX4 14 tyX4 := ⟨rfl, uwX4, tyX4_ok, nmX4, rfl, by decide +kernel, by decide +kernel⟩
theorem uwX5 : ∀ w ∈ u_ws RX5 TX5 5, w ∈ ALLW := fun w hw => by
  obtain ⟨k, hk, rfl⟩ := List.mem_map.mp hw
  have hk := List.mem_range.mp hk
  exact match k, hk with
    | 0, _ => w_573
    | 1, _ => w_575
    | 2, _ => w_577
    | 3, _ => w_579
    | 4, _ => w_581
    | k + 5, h => absurd h (by omega)
theorem clX5 : ClsOk 5 RX5 TX5 5 tyX5 := ⟨rfl, uwX5, tyX5_ok, nmX5, rfl, by decide +kernel, by decide +kernel⟩
theorem uwX6 : ∀ w ∈ u_ws RX6 TX6 8, w ∈ ALLW := fun w hw => by
  obtain ⟨k, hk, rfl⟩ := List.mem_map.mp hw
  have hk := List.mem_range.mp hk
  exact match k, hk with
    | 0, _ => w_394
    | 1, _ => w_396
    | 2, _ => w_398
    | 3, _ => w_400
    | 4, _ => w_402
    | 5, _ => w_404
    | 6, _ => w_406
    | 7, _ => w_408
    | k + 8, h => absurd h (by omega)
theorem clX6 : ClsOk 6 RX6 TX6 8 tyX6 := ⟨rfl, uwX6, tyX6_ok, nmX6, rfl, by decide +kernel, by decide +kernel⟩
theorem uwX7 : ∀ w ∈ u_ws RX7 TX7 4, w ∈ ALLW := fun w hw => by
  obtain ⟨k, hk, rfl⟩ := List.mem_map.mp hw
  have hk := List.mem_range.mp hk
  exact match k, hk with
    | 0, _ => w_207
    | 1, _ => w_209
    | 2, _ => w_211
    | 3, _ => w_213
    | k + 4, h => absurd h (by omega)
theorem clX7 : ClsOk 7 RX7 TX7 4 tyX7 := ⟨rfl, uwX7, tyX7_ok, nmX7, rfl, by decide +kernel, by decide +kernel⟩
theorem uwX8 : ∀ w ∈ u_ws RX8 TX8 4, w ∈ ALLW := fun w hw => by
  obtain ⟨k, hk, rfl⟩ := List.mem_map.mp hw
  have hk := List.mem_range.mp hk
  exact match k, hk with
    | 0, _ => w_238
    | 1, _ => w_240
    | 2, _ => w_242
    | 3, _ => w_244
    | k + 4, h => absurd h (by omega)
theorem clX8 : ClsOk 8 RX8 TX8 4 tyX8 := ⟨rfl, uwX8, tyX8_ok, nmX8, rfl, by decide +kernel, by decide +kernel⟩
theorem uwX9 : ∀ w ∈ u_ws RX9 TX9 17, w ∈ ALLW := fun w hw => by
  obtain ⟨k, hk, rfl⟩ := List.mem_map.mp hw
  have hk := List.mem_range.mp hk
  exact match k, hk with
    | 0, _ => w_525
    | 1, _ => w_527
    | 2, _ => w_529
    | 3, _ => w_531
    | 4, _ => w_533
    | 5, _ => w_535
    | 6, _ => w_537
    | 7, _ => w_539
    | 8, _ => w_541
    | 9, _ => w_543
    | 10, _ => w_545
    | 11, _ => w_547
    | 12, _ => w_549
    | 13, _ => w_551
    | 14, _ => w_553
    | 15, _ => w_555
    | 16, _ => w_557
    | k + 17, h => absurd h (by omega)
theorem clX9 : ClsOk 9 RX9 TX9 17 tyX9 := ⟨rfl, uwX9, tyX9_ok, nmX9, rfl, by decide +kernel, by decide +kernel⟩
theorem uwX10 : ∀ w ∈ u_ws RX10 TX10 7, w ∈ ALLW := fun w hw => by
  obtain ⟨k, hk, rfl⟩ := List.mem_map.mp hw
  have hk := List.mem_range.mp hk
  exact match k, hk with
    | 0, _ => w_173
    | 1, _ => w_175
    | 2, _ => w_177
    | 3, _ => w_179
    | 4, _ => w_181
    | 5, _ => w_183
    | 6, _ => w_185
    | k + 7, h => absurd h (by omega)
theorem clX10 : ClsOk 10 RX10 TX10 7 tyX10 := ⟨rfl, uwX10, tyX10_ok, nmX10, rfl, by decide +kernel, by decide +kernel⟩
theorem uwX11 : ∀ w ∈ u_ws RX11 TX11 20, w ∈ ALLW := fun w hw => by
  obtain ⟨k, hk, rfl⟩ := List.mem_map.mp hw
  have hk := List.mem_range.mp hk
  exact match k, hk with
    | 0, _ => w_604
    | 1, _ => w_606
    | 2, _ => w_608
    | 3, _ => w_610
    | 4, _ => w_612
    | 5, _ => w_614
    | 6, _ => w_616
    | 7, _ => w_618
    | 8, _ => w_620
    | 9, _ => w_622
    | 10, _ => w_624
    | 11, _ => w_626
    | 12, _ => w_628
    | 13, _ => w_630
    | 14, _ => w_632
    | 15, _ => w_634
    | 16, _ => w_636
    | 17, _ => w_638
    | 18, _ => w_640
    | 19, _ => w_642
    | k + 20, h => absurd h (by omega)
theorem clX11 : ClsOk 11 RX11 TX11 20 tyX11 := ⟨rfl, uwX11, tyX11_ok, nmX11, rfl, by decide +kernel, by decide +kernel⟩
theorem uwX12 : ∀ w ∈ u_ws RX12 TX12 66, w ∈ ALLW := fun w hw => by
  obtain ⟨k, hk, rfl⟩ := List.mem_map.mp hw
  have hk := List.mem_range.mp hk
  exact match k, hk with
    | 0, _ => w_1811
    | 1, _ => w_1813
    | 2, _ => w_1815
    | 3, _ => w_1817
    | 4, _ => w_1819
    | 5, _ => w_1821
    | 6, _ => w_1823
    | 7, _ => w_1825
    | 8, _ => w_1827
    | 9, _ => w_1829
    | 10, _ => w_1831
    | 11, _ => w_1833
    | 12, _ => w_1835
    | 13, _ => w_1837
    | 14, _ => w_1839
    | 15, _ => w_1841
    | 16, _ => w_1843
    | 17, _ => w_1845
    | 18, _ => w_1847
    | 19, _ => w_1849
    | 20, _ => w_1851
    | 21, _ => w_1853
    | 22, _ => w_1855
    | 23, _ => w_1857
    | 24, _ => w_1859
    | 25, _ => w_1861
    | 26, _ => w_1863
    | 27, _ => w_1865
    | 28, _ => w_1867
    | 29, _ => w_1869
    | 30, _ => w_1871
    | 31, _ => w_1873
    | 32, _ => w_1875
    | 33, _ => w_1877
    | 34, _ => w_1879
    | 35, _ => w_1881
    | 36, _ => w_1883
    | 37, _ => w_1885
    | 38, _ => w_1887
    | 39, _ => w_1889
    | 40, _ => w_1891
    | 41, _ => w_1893
    | 42, _ => w_1895
    | 43, _ => w_1897
    | 44, _ => w_1899
    | 45, _ => w_1901
    | 46, _ => w_1903
    | 47, _ => w_1905
    | 48, _ => w_1907
    | 49, _ => w_1909
    | 50, _ => w_1911
    | 51, _ => w_1913
    | 52, _ => w_1915
    | 53, _ => w_1917
    | 54, _ => w_1919
    | 55, _ => w_1921
    | 56, _ => w_1923
    | 57, _ => w_1925
    | 58, _ => w_1927
    | 59, _ => w_1929
    | 60, _ => w_1931
    | 61, _ => w_1933
    | 62, _ => w_1935
    | 63, _ => w_1937
    | 64, _ => w_1939
    | 65, _ => w_1941
    | k + 66, h => absurd h (by omega)
theorem clX12 : ClsOk 12 RX12 TX12 66 tyX12 := ⟨rfl, uwX12, tyX12_ok, nmX12, rfl, by decide +kernel, by decide +kernel⟩
/-- the kinds of the cells: the class's objects, the reference's, the law's row for answers -/
def K2_0 : Shp := [(18, 0), (17, 0), (1, 600), (0, 3), (14, 0), (0, 150), (0, 150), (0, 150), (14, 0), (0, 150), (0, 150), (0, 150), (15, 0), (0, 16), (0, 16), (0, 16), (15, 0), (0, 16), (0, 16), (0, 16), (15, 0), (0, 16), (0, 16), (0, 16), (9, 0), (0, 20), (0, 20), (0, 20), (0, 20), (4, 3), (11, 0), (0, 11), (0, 11), (0, 24), (0, 24), (0, 24), (3, 264), (0, 24), (0, 1920), (11, 0), (0, 11), (0, 11), (0, 24), (0, 24), (0, 24), (3, 264), (0, 24), (0, 1920), (10, 0), (0, 8), (0, 8), (0, 8), (0, 192), (3, 40), (10, 0), (0, 8), (0, 8), (0, 8), (0, 192), (3, 40)]
def K2_1 : Shp := [(8, 0), (0, 960), (13, 0), (0, 40), (3, 40), (0, 3), (0, 8), (3, 40), (16, 0), (0, 10), (0, 10), (0, 24), (0, 24), (0, 3), (0, 3), (0, 3), (7, 0), (0, 8), (0, 8), (0, 8), (0, 160), (3, 8), (3, 8), (16, 0), (0, 10), (0, 10), (0, 24), (0, 24), (0, 3), (0, 3), (0, 3), (7, 0), (0, 8), (0, 8), (0, 8), (0, 160), (3, 8), (3, 8), (12, 0), (0, 10), (0, 8), (0, 160), (9, 0), (0, 20), (0, 20), (0, 20), (0, 20), (12, 0), (0, 10), (0, 8), (0, 160), (9, 0), (0, 20), (0, 20), (0, 20), (0, 20), (12, 0), (0, 10), (0, 8), (0, 160)]
def K2_2 : Shp := [(9, 0), (0, 20), (0, 20), (0, 20), (0, 20), (19, 0), (0, 600), (0, 3), (0, 8), (0, 8), (5, 10), (0, 2), (0, 2), (0, 2), (0, 2), (0, 2), (0, 2), (0, 2), (0, 2), (0, 2), (0, 2), (5, 11), (0, 2), (0, 2), (0, 2), (0, 2), (0, 2), (0, 2), (0, 2), (0, 2), (0, 2), (0, 2), (0, 2), (5, 12), (0, 3), (0, 3), (0, 3), (0, 3), (0, 3), (0, 3), (0, 3), (0, 3), (0, 3), (0, 3), (0, 3), (0, 3), (5, 12), (0, 3), (0, 3), (0, 3), (0, 3), (0, 3), (0, 3), (0, 3), (0, 3), (0, 3), (0, 3), (0, 3), (0, 3), (5, 3)]
def K2_3 : Shp := [(0, 3), (0, 3), (0, 3), (5, 3), (0, 3), (0, 3), (0, 3), (5, 6), (0, 2), (0, 2), (0, 2), (0, 2), (0, 2), (0, 2), (5, 6), (0, 2), (0, 2), (0, 2), (0, 2), (0, 2), (0, 2), (5, 6), (0, 2), (0, 2), (0, 2), (0, 2), (0, 2), (0, 2), (5, 9), (0, 2), (0, 2), (0, 2), (0, 2), (0, 2), (0, 2), (0, 2), (0, 2), (0, 2), (5, 8), (0, 3), (0, 3), (0, 3), (0, 3), (0, 3), (0, 3), (0, 3), (0, 3), (5, 8), (0, 3), (0, 3), (0, 3), (0, 3), (0, 3), (0, 3), (0, 3), (0, 3), (5, 8), (0, 20), (0, 20), (0, 20)]
def K2_4 : Shp := [(0, 20), (0, 20), (0, 20), (0, 20), (0, 20), (5, 8), (0, 20), (0, 20), (0, 20), (0, 20), (0, 20), (0, 20), (0, 20), (0, 20), (5, 160), (0, 2), (0, 2), (0, 2), (0, 2), (0, 2), (0, 2), (0, 2), (0, 2), (0, 2), (0, 2), (0, 2), (0, 2), (0, 2), (0, 2), (0, 2), (0, 2), (0, 2), (0, 2), (0, 2), (0, 2), (0, 2), (0, 2), (0, 2), (0, 2), (0, 2), (0, 2), (0, 2), (0, 2), (0, 2), (0, 2), (0, 2), (0, 2), (0, 2), (0, 2), (0, 2), (0, 2), (0, 2), (0, 2), (0, 2), (0, 2), (0, 2), (0, 2), (0, 2), (0, 2), (0, 2)]
def K2_5 : Shp := [(0, 2), (0, 2), (0, 2), (0, 2), (0, 2), (0, 2), (0, 2), (0, 2), (0, 2), (0, 2), (0, 2), (0, 2), (0, 2), (0, 2), (0, 2), (0, 2), (0, 2), (0, 2), (0, 2), (0, 2), (0, 2), (0, 2), (0, 2), (0, 2), (0, 2), (0, 2), (0, 2), (0, 2), (0, 2), (0, 2), (0, 2), (0, 2), (0, 2), (0, 2), (0, 2), (0, 2), (0, 2), (0, 2), (0, 2), (0, 2), (0, 2), (0, 2), (0, 2), (0, 2), (0, 2), (0, 2), (0, 2), (0, 2), (0, 2), (0, 2), (0, 2), (0, 2), (0, 2), (0, 2), (0, 2), (0, 2), (0, 2), (0, 2), (0, 2), (0, 2)]
def K2_6 : Shp := [(0, 2), (0, 2), (0, 2), (0, 2), (0, 2), (0, 2), (0, 2), (0, 2), (0, 2), (0, 2), (0, 2), (0, 2), (0, 2), (0, 2), (0, 2), (0, 2), (0, 2), (0, 2), (0, 2), (0, 2), (0, 2), (0, 2), (0, 2), (0, 2), (0, 2), (0, 2), (0, 2), (0, 2), (0, 2), (0, 2), (0, 2), (0, 2), (0, 2), (0, 2), (0, 2), (0, 2), (0, 2), (0, 2), (0, 2), (0, 2), (0, 2), (0, 2), (0, 2), (0, 2), (0, 2), (0, 2), (0, 2), (0, 2), (0, 2), (0, 2), (0, 2), (0, 2), (0, 2), (0, 2), (0, 2), (5, 160), (0, 2), (0, 2), (0, 2), (0, 2)]
def K2_7 : Shp := [(0, 2), (0, 2), (0, 2), (0, 2), (0, 2), (0, 2), (0, 2), (0, 2), (0, 2), (0, 2), (0, 2), (0, 2), (0, 2), (0, 2), (0, 2), (0, 2), (0, 2), (0, 2), (0, 2), (0, 2), (0, 2), (0, 2), (0, 2), (0, 2), (0, 2), (0, 2), (0, 2), (0, 2), (0, 2), (0, 2), (0, 2), (0, 2), (0, 2), (0, 2), (0, 2), (0, 2), (0, 2), (0, 2), (0, 2), (0, 2), (0, 2), (0, 2), (0, 2), (0, 2), (0, 2), (0, 2), (0, 2), (0, 2), (0, 2), (0, 2), (0, 2), (0, 2), (0, 2), (0, 2), (0, 2), (0, 2), (0, 2), (0, 2), (0, 2), (0, 2)]
def K2_8 : Shp := [(0, 2), (0, 2), (0, 2), (0, 2), (0, 2), (0, 2), (0, 2), (0, 2), (0, 2), (0, 2), (0, 2), (0, 2), (0, 2), (0, 2), (0, 2), (0, 2), (0, 2), (0, 2), (0, 2), (0, 2), (0, 2), (0, 2), (0, 2), (0, 2), (0, 2), (0, 2), (0, 2), (0, 2), (0, 2), (0, 2), (0, 2), (0, 2), (0, 2), (0, 2), (0, 2), (0, 2), (0, 2), (0, 2), (0, 2), (0, 2), (0, 2), (0, 2), (0, 2), (0, 2), (0, 2), (0, 2), (0, 2), (0, 2), (0, 2), (0, 2), (0, 2), (0, 2), (0, 2), (0, 2), (0, 2), (0, 2), (0, 2), (0, 2), (0, 2), (0, 2)]
def K2_9 : Shp := [(0, 2), (0, 2), (0, 2), (0, 2), (0, 2), (0, 2), (0, 2), (0, 2), (0, 2), (0, 2), (0, 2), (0, 2), (0, 2), (0, 2), (0, 2), (0, 2), (0, 2), (0, 2), (0, 2), (0, 2), (0, 2), (0, 2), (0, 2), (0, 2), (0, 2), (0, 2), (0, 2), (0, 2), (0, 2), (0, 2), (0, 2), (0, 2), (0, 2), (0, 2), (0, 2), (0, 2), (0, 160), (0, 4), (0, 57600), (0, 57600), (5, 16), (0, 3), (0, 3), (0, 3), (0, 3), (0, 3), (0, 3), (0, 3), (0, 3), (0, 3), (0, 3), (0, 3), (0, 3), (0, 3), (0, 3), (0, 3), (0, 3), (5, 16), (0, 3), (0, 3)]
def K2_10 : Shp := [(0, 3), (0, 3), (0, 3), (0, 3), (0, 3), (0, 3), (0, 3), (0, 3), (0, 3), (0, 3), (0, 3), (0, 3), (0, 3), (0, 3), (5, 8), (0, 2), (0, 2), (0, 2), (0, 2), (0, 2), (0, 2), (0, 2), (0, 2), (5, 8), (0, 2), (0, 2), (0, 2), (0, 2), (0, 2), (0, 2), (0, 2), (0, 2), (5, 20), (0, 178), (0, 178), (0, 178), (0, 178), (0, 178), (0, 178), (0, 178), (0, 178), (0, 178), (0, 178), (0, 178), (0, 178), (0, 178), (0, 178), (0, 178), (0, 178), (0, 178), (0, 178), (0, 178), (0, 178), (5, 3), (0, 3740), (0, 3740), (0, 3740), (5, 24), (0, 40), (0, 40)]
def K2_11 : Shp := [(0, 40), (0, 40), (0, 40), (0, 40), (0, 40), (0, 40), (0, 40), (0, 40), (0, 40), (0, 40), (0, 40), (0, 40), (0, 40), (0, 40), (0, 40), (0, 40), (0, 40), (0, 40), (0, 40), (0, 40), (0, 40), (0, 40), (5, 24), (0, 40), (0, 40), (0, 40), (0, 40), (0, 40), (0, 40), (0, 40), (0, 40), (0, 40), (0, 40), (0, 40), (0, 40), (0, 40), (0, 40), (0, 40), (0, 40), (0, 40), (0, 40), (0, 40), (0, 40), (0, 40), (0, 40), (0, 40), (0, 40), (5, 24), (0, 40), (0, 40), (0, 40), (0, 40), (0, 40), (0, 40), (0, 40), (0, 40), (0, 40), (0, 40), (0, 40), (0, 40)]
def K2_12 : Shp := [(0, 40), (0, 40), (0, 40), (0, 40), (0, 40), (0, 40), (0, 40), (0, 40), (0, 40), (0, 40), (0, 40), (0, 40), (6, 24), (3, 40), (3, 40), (3, 40), (3, 40), (3, 40), (3, 40), (3, 40), (3, 40), (3, 40), (3, 40), (3, 40), (3, 40), (3, 40), (3, 40), (3, 40), (3, 40), (3, 40), (3, 40), (3, 40), (3, 40), (3, 40), (3, 40), (3, 40), (3, 40), (5, 24), (0, 8), (0, 8), (0, 8), (0, 8), (0, 8), (0, 8), (0, 8), (0, 8), (0, 8), (0, 8), (0, 8), (0, 8), (0, 8), (0, 8), (0, 8), (0, 8), (0, 8), (0, 8), (0, 8), (0, 8), (0, 8), (0, 8)]
def K2_13 : Shp := [(0, 8), (0, 8), (0, 8), (0, 8), (0, 8), (5, 25), (0, 40), (0, 40), (0, 40), (0, 40), (0, 40), (0, 40), (0, 40), (0, 40), (0, 40), (0, 40), (0, 40), (0, 40), (0, 40), (0, 40), (0, 40), (0, 40), (0, 40), (0, 40), (0, 40), (0, 40), (0, 40), (0, 40), (0, 40), (0, 40), (0, 40), (2, 40), (2, 40), (3, 1)]
def K2 : Shp := K2_0 ++ (K2_1 ++ (K2_2 ++ (K2_3 ++ (K2_4 ++ (K2_5 ++ (K2_6 ++ (K2_7 ++ (K2_8 ++ (K2_9 ++ (K2_10 ++ (K2_11 ++ (K2_12 ++ (K2_13)))))))))))))
def rtab_0 : List (List (Option Nat)) := [[some 1, some 3, some 4, some 8, some 12, some 16, some 20, some 24, some 29, some 30, some 39, some 48, some 54, some 60, some 62, none, none, none, none, none], [some 2, none, none, none, none, none, none], [], [], [some 5, some 6, some 7, none], [], [], [], [some 9, some 10, some 11, none], [], [], [], [some 13, some 14, some 15, none], [], [], [], [some 17, some 18, some 19, none], [], [], [], [some 21, some 22, some 23, none], [], [], [], [some 25, some 26, some 27, some 28, none], [], [], [], [], [some 98, some 107, some 116], [some 31, some 32, some 33, some 34, some 35, some 36, some 37, some 38, none, none, none, none, none, none], [], [], [], [], [], [], [], [], [some 40, some 41, some 42, some 43, some 44, some 45, some 46, some 47, none, none, none, none, none, none], [], [], [], [], [], [], [], [], [some 49, some 50, some 51, some 52, some 53, none, none], [], [], [], [], [], [some 55, some 56, some 57, some 58, some 59, none, none], [], [], [], [], []]
def rtab_1 : List (List (Option Nat)) := [[some 61, none, none, none], [], [some 63, some 64, some 65, some 66, some 67, none, none, none], [], [], [], [], [], [some 69, some 70, some 71, some 72, some 73, some 74, some 75, some 76, none, none, none, none, none, none, none, none, none], [], [], [], [], [], [], [], [some 77, some 78, some 79, some 80, some 81, some 82, none], [], [], [], [], [], [], [some 84, some 85, some 86, some 87, some 88, some 89, some 90, some 91, none, none, none, none, none, none, none, none, none], [], [], [], [], [], [], [], [some 92, some 93, some 94, some 95, some 96, some 97, none], [], [], [], [], [], [], [some 99, some 100, some 101, some 102, none], [], [], [], [some 103, some 104, some 105, some 106, none], [], [], [], [], [some 108, some 109, some 110, some 111, none], [], [], [], [some 112, some 113, some 114, some 115, none], [], [], [], [], [some 117, some 118, some 119, some 120, none], [], [], []]
def rtab_2 : List (List (Option Nat)) := [[some 121, some 122, some 123, some 124, none], [], [], [], [], [none, none, none, none, none, none, none, none, none, some 126, some 127, some 128, some 129, some 130, some 141, some 153, some 166, some 179, some 183, some 187, some 194, some 201, some 208, some 218, some 227, some 236, some 245, none, none, none, none, some 254, some 415, some 576, some 577, some 578, some 579, some 580, some 597, some 614, some 623, some 632, some 653, none, none, none, none, none, none, some 657, some 682, some 707, none, none, none, some 732, some 757, some 782, some 783, some 784, none, some 785, none, none, some 811, some 812], [], [], [], [], [some 131, some 132, some 133, some 134, some 135, some 136, some 137, some 138, some 139, some 140], [], [], [], [], [], [], [], [], [], [], [some 142, some 143, some 144, some 145, some 146, some 147, some 148, some 149, some 150, some 151, some 152], [], [], [], [], [], [], [], [], [], [], [], [some 154, some 155, some 156, some 157, some 158, some 159, some 160, some 161, some 162, some 163, some 164, some 165], [], [], [], [], [], [], [], [], [], [], [], [], [some 167, some 168, some 169, some 170, some 171, some 172, some 173, some 174, some 175, some 176, some 177, some 178], [], [], [], [], [], [], [], [], [], [], [], [], [some 180, some 181, some 182]]
def rtab_3 : List (List (Option Nat)) := [[], [], [], [some 184, some 185, some 186], [], [], [], [some 188, some 189, some 190, some 191, some 192, some 193], [], [], [], [], [], [], [some 195, some 196, some 197, some 198, some 199, some 200], [], [], [], [], [], [], [some 202, some 203, some 204, some 205, some 206, some 207], [], [], [], [], [], [], [some 209, some 210, some 211, some 212, some 213, some 214, some 215, some 216, some 217], [], [], [], [], [], [], [], [], [], [some 219, some 220, some 221, some 222, some 223, some 224, some 225, some 226], [], [], [], [], [], [], [], [], [some 228, some 229, some 230, some 231, some 232, some 233, some 234, some 235], [], [], [], [], [], [], [], [], [some 237, some 238, some 239, some 240, some 241, some 242, some 243, some 244], [], [], []]
def rtab_4 : List (List (Option Nat)) := [[], [], [], [], [], [some 246, some 247, some 248, some 249, some 250, some 251, some 252, some 253], [], [], [], [], [], [], [], [], [some 255, some 256, some 257, some 258, some 259, some 260, some 261, some 262, some 263, some 264, some 265, some 266, some 267, some 268, some 269, some 270, some 271, some 272, some 273, some 274, some 275, some 276, some 277, some 278, some 279, some 280, some 281, some 282, some 283, some 284, some 285, some 286, some 287, some 288, some 289, some 290, some 291, some 292, some 293, some 294, some 295, some 296, some 297, some 298, some 299, some 300, some 301, some 302, some 303, some 304, some 305, some 306, some 307, some 308, some 309, some 310, some 311, some 312, some 313, some 314, some 315, some 316, some 317, some 318, some 319, some 320, some 321, some 322, some 323, some 324, some 325, some 326, some 327, some 328, some 329, some 330, some 331, some 332, some 333, some 334, some 335, some 336, some 337, some 338, some 339, some 340, some 341, some 342, some 343, some 344, some 345, some 346, some 347, some 348, some 349, some 350, some 351, some 352, some 353, some 354, some 355, some 356, some 357, some 358, some 359, some 360, some 361, some 362, some 363, some 364, some 365, some 366, some 367, some 368, some 369, some 370, some 371, some 372, some 373, some 374, some 375, some 376, some 377, some 378, some 379, some 380, some 381, some 382, some 383, some 384, some 385, some 386, some 387, some 388, some 389, some 390, some 391, some 392, some 393, some 394, some 395, some 396, some 397, some 398, some 399, some 400, some 401, some 402, some 403, some 404, some 405, some 406, some 407, some 408, some 409, some 410, some 411, some 412, some 413, some 414], [], [], [], [], [], [], [], [], [], [], [], [], [], [], [], [], [], [], [], [], [], [], [], [], [], [], [], [], [], [], [], [], [], [], [], [], [], [], [], [], [], [], [], [], []]
def rtab_5 : List (List (Option Nat)) := [[], [], [], [], [], [], [], [], [], [], [], [], [], [], [], [], [], [], [], [], [], [], [], [], [], [], [], [], [], [], [], [], [], [], [], [], [], [], [], [], [], [], [], [], [], [], [], [], [], [], [], [], [], [], [], [], [], [], [], []]
def rtab_6 : List (List (Option Nat)) := [[], [], [], [], [], [], [], [], [], [], [], [], [], [], [], [], [], [], [], [], [], [], [], [], [], [], [], [], [], [], [], [], [], [], [], [], [], [], [], [], [], [], [], [], [], [], [], [], [], [], [], [], [], [], [], [some 416, some 417, some 418, some 419, some 420, some 421, some 422, some 423, some 424, some 425, some 426, some 427, some 428, some 429, some 430, some 431, some 432, some 433, some 434, some 435, some 436, some 437, some 438, some 439, some 440, some 441, some 442, some 443, some 444, some 445, some 446, some 447, some 448, some 449, some 450, some 451, some 452, some 453, some 454, some 455, some 456, some 457, some 458, some 459, some 460, some 461, some 462, some 463, some 464, some 465, some 466, some 467, some 468, some 469, some 470, some 471, some 472, some 473, some 474, some 475, some 476, some 477, some 478, some 479, some 480, some 481, some 482, some 483, some 484, some 485, some 486, some 487, some 488, some 489, some 490, some 491, some 492, some 493, some 494, some 495, some 496, some 497, some 498, some 499, some 500, some 501, some 502, some 503, some 504, some 505, some 506, some 507, some 508, some 509, some 510, some 511, some 512, some 513, some 514, some 515, some 516, some 517, some 518, some 519, some 520, some 521, some 522, some 523, some 524, some 525, some 526, some 527, some 528, some 529, some 530, some 531, some 532, some 533, some 534, some 535, some 536, some 537, some 538, some 539, some 540, some 541, some 542, some 543, some 544, some 545, some 546, some 547, some 548, some 549, some 550, some 551, some 552, some 553, some 554, some 555, some 556, some 557, some 558, some 559, some 560, some 561, some 562, some 563, some 564, some 565, some 566, some 567, some 568, some 569, some 570, some 571, some 572, some 573, some 574, some 575], [], [], [], []]
def rtab_7 : List (List (Option Nat)) := [[], [], [], [], [], [], [], [], [], [], [], [], [], [], [], [], [], [], [], [], [], [], [], [], [], [], [], [], [], [], [], [], [], [], [], [], [], [], [], [], [], [], [], [], [], [], [], [], [], [], [], [], [], [], [], [], [], [], [], []]
def rtab_8 : List (List (Option Nat)) := [[], [], [], [], [], [], [], [], [], [], [], [], [], [], [], [], [], [], [], [], [], [], [], [], [], [], [], [], [], [], [], [], [], [], [], [], [], [], [], [], [], [], [], [], [], [], [], [], [], [], [], [], [], [], [], [], [], [], [], []]
def rtab_9 : List (List (Option Nat)) := [[], [], [], [], [], [], [], [], [], [], [], [], [], [], [], [], [], [], [], [], [], [], [], [], [], [], [], [], [], [], [], [], [], [], [], [], [], [], [], [], [some 581, some 582, some 583, some 584, some 585, some 586, some 587, some 588, some 589, some 590, some 591, some 592, some 593, some 594, some 595, some 596], [], [], [], [], [], [], [], [], [], [], [], [], [], [], [], [], [some 598, some 599, some 600, some 601, some 602, some 603, some 604, some 605, some 606, some 607, some 608, some 609, some 610, some 611, some 612, some 613], [], []]
def rtab_10 : List (List (Option Nat)) := [[], [], [], [], [], [], [], [], [], [], [], [], [], [], [some 615, some 616, some 617, some 618, some 619, some 620, some 621, some 622], [], [], [], [], [], [], [], [], [some 624, some 625, some 626, some 627, some 628, some 629, some 630, some 631], [], [], [], [], [], [], [], [], [some 633, some 634, some 635, some 636, some 637, some 638, some 639, some 640, some 641, some 642, some 643, some 644, some 645, some 646, some 647, some 648, some 649, some 650, some 651, some 652], [], [], [], [], [], [], [], [], [], [], [], [], [], [], [], [], [], [], [], [], [some 654, some 655, some 656], [], [], [], [some 658, some 659, some 660, some 661, some 662, some 663, some 664, some 665, some 666, some 667, some 668, some 669, some 670, some 671, some 672, some 673, some 674, some 675, some 676, some 677, some 678, some 679, some 680, some 681], [], []]
def rtab_11 : List (List (Option Nat)) := [[], [], [], [], [], [], [], [], [], [], [], [], [], [], [], [], [], [], [], [], [], [], [some 683, some 684, some 685, some 686, some 687, some 688, some 689, some 690, some 691, some 692, some 693, some 694, some 695, some 696, some 697, some 698, some 699, some 700, some 701, some 702, some 703, some 704, some 705, some 706], [], [], [], [], [], [], [], [], [], [], [], [], [], [], [], [], [], [], [], [], [], [], [], [], [some 708, some 709, some 710, some 711, some 712, some 713, some 714, some 715, some 716, some 717, some 718, some 719, some 720, some 721, some 722, some 723, some 724, some 725, some 726, some 727, some 728, some 729, some 730, some 731], [], [], [], [], [], [], [], [], [], [], [], []]
def rtab_12 : List (List (Option Nat)) := [[], [], [], [], [], [], [], [], [], [], [], [], [some 733, some 734, some 735, some 736, some 737, some 738, some 739, some 740, some 741, some 742, some 743, some 744, some 745, some 746, some 747, some 748, some 749, some 750, some 751, some 752, some 753, some 754, some 755, some 756], [], [], [], [], [], [], [], [], [], [], [], [], [], [], [], [], [], [], [], [], [], [], [], [], [some 758, some 759, some 760, some 761, some 762, some 763, some 764, some 765, some 766, some 767, some 768, some 769, some 770, some 771, some 772, some 773, some 774, some 775, some 776, some 777, some 778, some 779, some 780, some 781], [], [], [], [], [], [], [], [], [], [], [], [], [], [], [], [], [], [], [], [], [], []]
def rtab_13 : List (List (Option Nat)) := [[], [], [], [], [], [some 786, some 787, some 788, some 789, some 790, some 791, some 792, some 793, some 794, some 795, some 796, some 797, some 798, some 799, some 800, some 801, some 802, some 803, some 804, some 805, some 806, some 807, some 808, some 809, some 810], [], [], [], [], [], [], [], [], [], [], [], [], [], [], [], [], [], [], [], [], [], [], [], [], [], [], [], []]
/-- the references that no method but the constructors writes -/
def rtab : List (List (Option Nat)) := rtab_0 ++ (rtab_1 ++ (rtab_2 ++ (rtab_3 ++ (rtab_4 ++ (rtab_5 ++ (rtab_6 ++ (rtab_7 ++ (rtab_8 ++ (rtab_9 ++ (rtab_10 ++ (rtab_11 ++ (rtab_12 ++ (rtab_13)))))))))))))
def rtv (a k : Nat) : Option Nat := (rtab.getD a []).getD k none
/-- the cells with those references as they are -/
def ov (E : Mm) : Mm := fun a k => match rtv a k with
  | some b => (b : Int)
  | none => E a k
theorem ov_n {E : Mm} {a k : Nat} (h : rtv a k = none) : ov E a k = E a k := by unfold ov; rw [h]
theorem ov_s {E : Mm} {a k b : Nat} (h : rtv a k = some b) : ov E a k = (b : Int) := by unfold ov; rw [h]
theorem ov_wr {E : Mm} {a k : Nat} {x : Int} (h : rtv a k = none) : wr (ov E) a k x = ov (wr E a k x) := by
  funext b j
  unfold wr
  by_cases c : b = a ∧ j = k
  · obtain ⟨rfl, rfl⟩ := c
    rw [if_pos ⟨rfl, rfl⟩, ov_n h, if_pos ⟨rfl, rfl⟩]
  · rw [if_neg c]
    unfold ov
    cases rtv b j with
    | some v => rfl
    | none => simp only [if_neg c]
theorem rtv_e {a : Nat} (h : rtab.getD a [] = []) (k : Nat) : rtv a k = none := by unfold rtv; rw [h]; rfl
theorem k_0 : K2[0]? = some (18, 0) := by decide +kernel
theorem r_0_0 : rtv 0 0 = some 1 := by decide +kernel
theorem r_0_1 : rtv 0 1 = some 3 := by decide +kernel
theorem r_0_2 : rtv 0 2 = some 4 := by decide +kernel
theorem r_0_3 : rtv 0 3 = some 8 := by decide +kernel
theorem r_0_4 : rtv 0 4 = some 12 := by decide +kernel
theorem r_0_5 : rtv 0 5 = some 16 := by decide +kernel
theorem r_0_6 : rtv 0 6 = some 20 := by decide +kernel
theorem r_0_7 : rtv 0 7 = some 24 := by decide +kernel
theorem r_0_8 : rtv 0 8 = some 29 := by decide +kernel
theorem r_0_9 : rtv 0 9 = some 30 := by decide +kernel
theorem r_0_10 : rtv 0 10 = some 39 := by decide +kernel
theorem r_0_11 : rtv 0 11 = some 48 := by decide +kernel
theorem r_0_12 : rtv 0 12 = some 54 := by decide +kernel
theorem r_0_13 : rtv 0 13 = some 60 := by decide +kernel
theorem r_0_14 : rtv 0 14 = some 62 := by decide +kernel
theorem rn_0_15 : rtv 0 15 = none := by decide +kernel
theorem rn_0_16 : rtv 0 16 = none := by decide +kernel
theorem rn_0_17 : rtv 0 17 = none := by decide +kernel
theorem rn_0_18 : rtv 0 18 = none := by decide +kernel
theorem rn_0_19 : rtv 0 19 = none := by decide +kernel
theorem k_1 : K2[1]? = some (17, 0) := by decide +kernel
theorem r_1_0 : rtv 1 0 = some 2 := by decide +kernel
theorem rn_1_1 : rtv 1 1 = none := by decide +kernel
theorem rn_1_2 : rtv 1 2 = none := by decide +kernel
theorem rn_1_3 : rtv 1 3 = none := by decide +kernel
theorem rn_1_4 : rtv 1 4 = none := by decide +kernel
theorem rn_1_5 : rtv 1 5 = none := by decide +kernel
theorem rn_1_6 : rtv 1 6 = none := by decide +kernel
theorem k_2 : K2[2]? = some (1, 600) := by decide +kernel
theorem e_2 : rtab.getD 2 [] = [] := by decide +kernel
theorem k_3 : K2[3]? = some (0, 3) := by decide +kernel
theorem e_3 : rtab.getD 3 [] = [] := by decide +kernel
theorem k_4 : K2[4]? = some (14, 0) := by decide +kernel
theorem r_4_0 : rtv 4 0 = some 5 := by decide +kernel
theorem r_4_1 : rtv 4 1 = some 6 := by decide +kernel
theorem r_4_2 : rtv 4 2 = some 7 := by decide +kernel
theorem rn_4_3 : rtv 4 3 = none := by decide +kernel
theorem k_5 : K2[5]? = some (0, 150) := by decide +kernel
theorem e_5 : rtab.getD 5 [] = [] := by decide +kernel
theorem k_6 : K2[6]? = some (0, 150) := by decide +kernel
theorem e_6 : rtab.getD 6 [] = [] := by decide +kernel
theorem k_7 : K2[7]? = some (0, 150) := by decide +kernel
theorem e_7 : rtab.getD 7 [] = [] := by decide +kernel
theorem k_8 : K2[8]? = some (14, 0) := by decide +kernel
theorem r_8_0 : rtv 8 0 = some 9 := by decide +kernel
theorem r_8_1 : rtv 8 1 = some 10 := by decide +kernel
theorem r_8_2 : rtv 8 2 = some 11 := by decide +kernel
theorem rn_8_3 : rtv 8 3 = none := by decide +kernel
theorem k_9 : K2[9]? = some (0, 150) := by decide +kernel
theorem e_9 : rtab.getD 9 [] = [] := by decide +kernel
theorem k_10 : K2[10]? = some (0, 150) := by decide +kernel
theorem e_10 : rtab.getD 10 [] = [] := by decide +kernel
theorem k_11 : K2[11]? = some (0, 150) := by decide +kernel
theorem e_11 : rtab.getD 11 [] = [] := by decide +kernel
theorem k_12 : K2[12]? = some (15, 0) := by decide +kernel
theorem r_12_0 : rtv 12 0 = some 13 := by decide +kernel
theorem r_12_1 : rtv 12 1 = some 14 := by decide +kernel
theorem r_12_2 : rtv 12 2 = some 15 := by decide +kernel
theorem rn_12_3 : rtv 12 3 = none := by decide +kernel
theorem k_13 : K2[13]? = some (0, 16) := by decide +kernel
theorem e_13 : rtab.getD 13 [] = [] := by decide +kernel
theorem k_14 : K2[14]? = some (0, 16) := by decide +kernel
theorem e_14 : rtab.getD 14 [] = [] := by decide +kernel
theorem k_15 : K2[15]? = some (0, 16) := by decide +kernel
theorem e_15 : rtab.getD 15 [] = [] := by decide +kernel
theorem k_16 : K2[16]? = some (15, 0) := by decide +kernel
theorem r_16_0 : rtv 16 0 = some 17 := by decide +kernel
theorem r_16_1 : rtv 16 1 = some 18 := by decide +kernel
theorem r_16_2 : rtv 16 2 = some 19 := by decide +kernel
theorem rn_16_3 : rtv 16 3 = none := by decide +kernel
theorem k_17 : K2[17]? = some (0, 16) := by decide +kernel
theorem e_17 : rtab.getD 17 [] = [] := by decide +kernel
theorem k_18 : K2[18]? = some (0, 16) := by decide +kernel
theorem e_18 : rtab.getD 18 [] = [] := by decide +kernel
theorem k_19 : K2[19]? = some (0, 16) := by decide +kernel
theorem e_19 : rtab.getD 19 [] = [] := by decide +kernel
theorem k_20 : K2[20]? = some (15, 0) := by decide +kernel
theorem r_20_0 : rtv 20 0 = some 21 := by decide +kernel
theorem r_20_1 : rtv 20 1 = some 22 := by decide +kernel
theorem r_20_2 : rtv 20 2 = some 23 := by decide +kernel
theorem rn_20_3 : rtv 20 3 = none := by decide +kernel
theorem k_21 : K2[21]? = some (0, 16) := by decide +kernel
theorem e_21 : rtab.getD 21 [] = [] := by decide +kernel
theorem k_22 : K2[22]? = some (0, 16) := by decide +kernel
theorem e_22 : rtab.getD 22 [] = [] := by decide +kernel
theorem k_23 : K2[23]? = some (0, 16) := by decide +kernel
theorem e_23 : rtab.getD 23 [] = [] := by decide +kernel
theorem k_24 : K2[24]? = some (9, 0) := by decide +kernel
theorem r_24_0 : rtv 24 0 = some 25 := by decide +kernel
theorem r_24_1 : rtv 24 1 = some 26 := by decide +kernel
theorem r_24_2 : rtv 24 2 = some 27 := by decide +kernel
theorem r_24_3 : rtv 24 3 = some 28 := by decide +kernel
theorem rn_24_4 : rtv 24 4 = none := by decide +kernel
theorem k_25 : K2[25]? = some (0, 20) := by decide +kernel
theorem e_25 : rtab.getD 25 [] = [] := by decide +kernel
theorem k_26 : K2[26]? = some (0, 20) := by decide +kernel
theorem e_26 : rtab.getD 26 [] = [] := by decide +kernel
theorem k_27 : K2[27]? = some (0, 20) := by decide +kernel
theorem e_27 : rtab.getD 27 [] = [] := by decide +kernel
theorem k_28 : K2[28]? = some (0, 20) := by decide +kernel
theorem e_28 : rtab.getD 28 [] = [] := by decide +kernel
theorem k_29 : K2[29]? = some (4, 3) := by decide +kernel
theorem rr_29 : ∀ k, k < 3 → rtv 29 k = some (98 + 9 * k) := by decide +kernel
theorem k_30 : K2[30]? = some (11, 0) := by decide +kernel
theorem r_30_0 : rtv 30 0 = some 31 := by decide +kernel
theorem r_30_1 : rtv 30 1 = some 32 := by decide +kernel
theorem r_30_2 : rtv 30 2 = some 33 := by decide +kernel
theorem r_30_3 : rtv 30 3 = some 34 := by decide +kernel
theorem r_30_4 : rtv 30 4 = some 35 := by decide +kernel
theorem r_30_5 : rtv 30 5 = some 36 := by decide +kernel
theorem r_30_6 : rtv 30 6 = some 37 := by decide +kernel
theorem r_30_7 : rtv 30 7 = some 38 := by decide +kernel
theorem rn_30_8 : rtv 30 8 = none := by decide +kernel
theorem rn_30_9 : rtv 30 9 = none := by decide +kernel
theorem rn_30_10 : rtv 30 10 = none := by decide +kernel
theorem rn_30_11 : rtv 30 11 = none := by decide +kernel
theorem rn_30_12 : rtv 30 12 = none := by decide +kernel
theorem rn_30_13 : rtv 30 13 = none := by decide +kernel
theorem k_31 : K2[31]? = some (0, 11) := by decide +kernel
theorem e_31 : rtab.getD 31 [] = [] := by decide +kernel
theorem k_32 : K2[32]? = some (0, 11) := by decide +kernel
theorem e_32 : rtab.getD 32 [] = [] := by decide +kernel
theorem k_33 : K2[33]? = some (0, 24) := by decide +kernel
theorem e_33 : rtab.getD 33 [] = [] := by decide +kernel
theorem k_34 : K2[34]? = some (0, 24) := by decide +kernel
theorem e_34 : rtab.getD 34 [] = [] := by decide +kernel
theorem k_35 : K2[35]? = some (0, 24) := by decide +kernel
theorem e_35 : rtab.getD 35 [] = [] := by decide +kernel
theorem k_36 : K2[36]? = some (3, 264) := by decide +kernel
theorem e_36 : rtab.getD 36 [] = [] := by decide +kernel
theorem k_37 : K2[37]? = some (0, 24) := by decide +kernel
theorem e_37 : rtab.getD 37 [] = [] := by decide +kernel
theorem k_38 : K2[38]? = some (0, 1920) := by decide +kernel
theorem e_38 : rtab.getD 38 [] = [] := by decide +kernel
theorem k_39 : K2[39]? = some (11, 0) := by decide +kernel
theorem r_39_0 : rtv 39 0 = some 40 := by decide +kernel
theorem r_39_1 : rtv 39 1 = some 41 := by decide +kernel
theorem r_39_2 : rtv 39 2 = some 42 := by decide +kernel
theorem r_39_3 : rtv 39 3 = some 43 := by decide +kernel
theorem r_39_4 : rtv 39 4 = some 44 := by decide +kernel
theorem r_39_5 : rtv 39 5 = some 45 := by decide +kernel
theorem r_39_6 : rtv 39 6 = some 46 := by decide +kernel
theorem r_39_7 : rtv 39 7 = some 47 := by decide +kernel
theorem rn_39_8 : rtv 39 8 = none := by decide +kernel
theorem rn_39_9 : rtv 39 9 = none := by decide +kernel
theorem rn_39_10 : rtv 39 10 = none := by decide +kernel
theorem rn_39_11 : rtv 39 11 = none := by decide +kernel
theorem rn_39_12 : rtv 39 12 = none := by decide +kernel
theorem rn_39_13 : rtv 39 13 = none := by decide +kernel
theorem k_40 : K2[40]? = some (0, 11) := by decide +kernel
theorem e_40 : rtab.getD 40 [] = [] := by decide +kernel
theorem k_41 : K2[41]? = some (0, 11) := by decide +kernel
theorem e_41 : rtab.getD 41 [] = [] := by decide +kernel
theorem k_42 : K2[42]? = some (0, 24) := by decide +kernel
theorem e_42 : rtab.getD 42 [] = [] := by decide +kernel
theorem k_43 : K2[43]? = some (0, 24) := by decide +kernel
theorem e_43 : rtab.getD 43 [] = [] := by decide +kernel
theorem k_44 : K2[44]? = some (0, 24) := by decide +kernel
theorem e_44 : rtab.getD 44 [] = [] := by decide +kernel
theorem k_45 : K2[45]? = some (3, 264) := by decide +kernel
theorem e_45 : rtab.getD 45 [] = [] := by decide +kernel
theorem k_46 : K2[46]? = some (0, 24) := by decide +kernel
theorem e_46 : rtab.getD 46 [] = [] := by decide +kernel
theorem k_47 : K2[47]? = some (0, 1920) := by decide +kernel
theorem e_47 : rtab.getD 47 [] = [] := by decide +kernel
theorem k_48 : K2[48]? = some (10, 0) := by decide +kernel
theorem r_48_0 : rtv 48 0 = some 49 := by decide +kernel
theorem r_48_1 : rtv 48 1 = some 50 := by decide +kernel
theorem r_48_2 : rtv 48 2 = some 51 := by decide +kernel
theorem r_48_3 : rtv 48 3 = some 52 := by decide +kernel
theorem r_48_4 : rtv 48 4 = some 53 := by decide +kernel
theorem rn_48_5 : rtv 48 5 = none := by decide +kernel
theorem rn_48_6 : rtv 48 6 = none := by decide +kernel
theorem k_49 : K2[49]? = some (0, 8) := by decide +kernel
theorem e_49 : rtab.getD 49 [] = [] := by decide +kernel
theorem k_50 : K2[50]? = some (0, 8) := by decide +kernel
theorem e_50 : rtab.getD 50 [] = [] := by decide +kernel
theorem k_51 : K2[51]? = some (0, 8) := by decide +kernel
theorem e_51 : rtab.getD 51 [] = [] := by decide +kernel
theorem k_52 : K2[52]? = some (0, 192) := by decide +kernel
theorem e_52 : rtab.getD 52 [] = [] := by decide +kernel
theorem k_53 : K2[53]? = some (3, 40) := by decide +kernel
theorem e_53 : rtab.getD 53 [] = [] := by decide +kernel
theorem k_54 : K2[54]? = some (10, 0) := by decide +kernel
theorem r_54_0 : rtv 54 0 = some 55 := by decide +kernel
theorem r_54_1 : rtv 54 1 = some 56 := by decide +kernel
theorem r_54_2 : rtv 54 2 = some 57 := by decide +kernel
theorem r_54_3 : rtv 54 3 = some 58 := by decide +kernel
theorem r_54_4 : rtv 54 4 = some 59 := by decide +kernel
theorem rn_54_5 : rtv 54 5 = none := by decide +kernel
theorem rn_54_6 : rtv 54 6 = none := by decide +kernel
theorem k_55 : K2[55]? = some (0, 8) := by decide +kernel
theorem e_55 : rtab.getD 55 [] = [] := by decide +kernel
theorem k_56 : K2[56]? = some (0, 8) := by decide +kernel
theorem e_56 : rtab.getD 56 [] = [] := by decide +kernel
theorem k_57 : K2[57]? = some (0, 8) := by decide +kernel
theorem e_57 : rtab.getD 57 [] = [] := by decide +kernel
theorem k_58 : K2[58]? = some (0, 192) := by decide +kernel
theorem e_58 : rtab.getD 58 [] = [] := by decide +kernel
theorem k_59 : K2[59]? = some (3, 40) := by decide +kernel
theorem e_59 : rtab.getD 59 [] = [] := by decide +kernel
theorem k_60 : K2[60]? = some (8, 0) := by decide +kernel
theorem r_60_0 : rtv 60 0 = some 61 := by decide +kernel
theorem rn_60_1 : rtv 60 1 = none := by decide +kernel
theorem rn_60_2 : rtv 60 2 = none := by decide +kernel
theorem rn_60_3 : rtv 60 3 = none := by decide +kernel
theorem k_61 : K2[61]? = some (0, 960) := by decide +kernel
theorem e_61 : rtab.getD 61 [] = [] := by decide +kernel
theorem k_62 : K2[62]? = some (13, 0) := by decide +kernel
theorem r_62_0 : rtv 62 0 = some 63 := by decide +kernel
theorem r_62_1 : rtv 62 1 = some 64 := by decide +kernel
theorem r_62_2 : rtv 62 2 = some 65 := by decide +kernel
theorem r_62_3 : rtv 62 3 = some 66 := by decide +kernel
theorem r_62_4 : rtv 62 4 = some 67 := by decide +kernel
theorem rn_62_5 : rtv 62 5 = none := by decide +kernel
theorem rn_62_6 : rtv 62 6 = none := by decide +kernel
theorem rn_62_7 : rtv 62 7 = none := by decide +kernel
theorem k_63 : K2[63]? = some (0, 40) := by decide +kernel
theorem e_63 : rtab.getD 63 [] = [] := by decide +kernel
theorem k_64 : K2[64]? = some (3, 40) := by decide +kernel
theorem e_64 : rtab.getD 64 [] = [] := by decide +kernel
theorem k_65 : K2[65]? = some (0, 3) := by decide +kernel
theorem e_65 : rtab.getD 65 [] = [] := by decide +kernel
theorem k_66 : K2[66]? = some (0, 8) := by decide +kernel
theorem e_66 : rtab.getD 66 [] = [] := by decide +kernel
theorem k_67 : K2[67]? = some (3, 40) := by decide +kernel
theorem e_67 : rtab.getD 67 [] = [] := by decide +kernel
theorem k_68 : K2[68]? = some (16, 0) := by decide +kernel
theorem r_68_0 : rtv 68 0 = some 69 := by decide +kernel
theorem r_68_1 : rtv 68 1 = some 70 := by decide +kernel
theorem r_68_2 : rtv 68 2 = some 71 := by decide +kernel
theorem r_68_3 : rtv 68 3 = some 72 := by decide +kernel
theorem r_68_4 : rtv 68 4 = some 73 := by decide +kernel
theorem r_68_5 : rtv 68 5 = some 74 := by decide +kernel
theorem r_68_6 : rtv 68 6 = some 75 := by decide +kernel
theorem r_68_7 : rtv 68 7 = some 76 := by decide +kernel
theorem rn_68_8 : rtv 68 8 = none := by decide +kernel
theorem rn_68_9 : rtv 68 9 = none := by decide +kernel
theorem rn_68_10 : rtv 68 10 = none := by decide +kernel
theorem rn_68_11 : rtv 68 11 = none := by decide +kernel
theorem rn_68_12 : rtv 68 12 = none := by decide +kernel
theorem rn_68_13 : rtv 68 13 = none := by decide +kernel
theorem rn_68_14 : rtv 68 14 = none := by decide +kernel
theorem rn_68_15 : rtv 68 15 = none := by decide +kernel
theorem rn_68_16 : rtv 68 16 = none := by decide +kernel
theorem k_69 : K2[69]? = some (0, 10) := by decide +kernel
theorem e_69 : rtab.getD 69 [] = [] := by decide +kernel
theorem k_70 : K2[70]? = some (0, 10) := by decide +kernel
theorem e_70 : rtab.getD 70 [] = [] := by decide +kernel
theorem k_71 : K2[71]? = some (0, 24) := by decide +kernel
theorem e_71 : rtab.getD 71 [] = [] := by decide +kernel
theorem k_72 : K2[72]? = some (0, 24) := by decide +kernel
theorem e_72 : rtab.getD 72 [] = [] := by decide +kernel
theorem k_73 : K2[73]? = some (0, 3) := by decide +kernel
theorem e_73 : rtab.getD 73 [] = [] := by decide +kernel
theorem k_74 : K2[74]? = some (0, 3) := by decide +kernel
theorem e_74 : rtab.getD 74 [] = [] := by decide +kernel
theorem k_75 : K2[75]? = some (0, 3) := by decide +kernel
theorem e_75 : rtab.getD 75 [] = [] := by decide +kernel
theorem k_76 : K2[76]? = some (7, 0) := by decide +kernel
theorem r_76_0 : rtv 76 0 = some 77 := by decide +kernel
theorem r_76_1 : rtv 76 1 = some 78 := by decide +kernel
theorem r_76_2 : rtv 76 2 = some 79 := by decide +kernel
theorem r_76_3 : rtv 76 3 = some 80 := by decide +kernel
theorem r_76_4 : rtv 76 4 = some 81 := by decide +kernel
theorem r_76_5 : rtv 76 5 = some 82 := by decide +kernel
theorem rn_76_6 : rtv 76 6 = none := by decide +kernel
theorem k_77 : K2[77]? = some (0, 8) := by decide +kernel
theorem e_77 : rtab.getD 77 [] = [] := by decide +kernel
theorem k_78 : K2[78]? = some (0, 8) := by decide +kernel
theorem e_78 : rtab.getD 78 [] = [] := by decide +kernel
theorem k_79 : K2[79]? = some (0, 8) := by decide +kernel
theorem e_79 : rtab.getD 79 [] = [] := by decide +kernel
theorem k_80 : K2[80]? = some (0, 160) := by decide +kernel
theorem e_80 : rtab.getD 80 [] = [] := by decide +kernel
theorem k_81 : K2[81]? = some (3, 8) := by decide +kernel
theorem e_81 : rtab.getD 81 [] = [] := by decide +kernel
theorem k_82 : K2[82]? = some (3, 8) := by decide +kernel
theorem e_82 : rtab.getD 82 [] = [] := by decide +kernel
theorem k_83 : K2[83]? = some (16, 0) := by decide +kernel
theorem r_83_0 : rtv 83 0 = some 84 := by decide +kernel
theorem r_83_1 : rtv 83 1 = some 85 := by decide +kernel
theorem r_83_2 : rtv 83 2 = some 86 := by decide +kernel
theorem r_83_3 : rtv 83 3 = some 87 := by decide +kernel
theorem r_83_4 : rtv 83 4 = some 88 := by decide +kernel
theorem r_83_5 : rtv 83 5 = some 89 := by decide +kernel
theorem r_83_6 : rtv 83 6 = some 90 := by decide +kernel
theorem r_83_7 : rtv 83 7 = some 91 := by decide +kernel
theorem rn_83_8 : rtv 83 8 = none := by decide +kernel
theorem rn_83_9 : rtv 83 9 = none := by decide +kernel
theorem rn_83_10 : rtv 83 10 = none := by decide +kernel
theorem rn_83_11 : rtv 83 11 = none := by decide +kernel
theorem rn_83_12 : rtv 83 12 = none := by decide +kernel
theorem rn_83_13 : rtv 83 13 = none := by decide +kernel
theorem rn_83_14 : rtv 83 14 = none := by decide +kernel
theorem rn_83_15 : rtv 83 15 = none := by decide +kernel
theorem rn_83_16 : rtv 83 16 = none := by decide +kernel
theorem k_84 : K2[84]? = some (0, 10) := by decide +kernel
theorem e_84 : rtab.getD 84 [] = [] := by decide +kernel
theorem k_85 : K2[85]? = some (0, 10) := by decide +kernel
theorem e_85 : rtab.getD 85 [] = [] := by decide +kernel
theorem k_86 : K2[86]? = some (0, 24) := by decide +kernel
theorem e_86 : rtab.getD 86 [] = [] := by decide +kernel
theorem k_87 : K2[87]? = some (0, 24) := by decide +kernel
theorem e_87 : rtab.getD 87 [] = [] := by decide +kernel
theorem k_88 : K2[88]? = some (0, 3) := by decide +kernel
theorem e_88 : rtab.getD 88 [] = [] := by decide +kernel
theorem k_89 : K2[89]? = some (0, 3) := by decide +kernel
theorem e_89 : rtab.getD 89 [] = [] := by decide +kernel
theorem k_90 : K2[90]? = some (0, 3) := by decide +kernel
theorem e_90 : rtab.getD 90 [] = [] := by decide +kernel
theorem k_91 : K2[91]? = some (7, 0) := by decide +kernel
theorem r_91_0 : rtv 91 0 = some 92 := by decide +kernel
theorem r_91_1 : rtv 91 1 = some 93 := by decide +kernel
theorem r_91_2 : rtv 91 2 = some 94 := by decide +kernel
theorem r_91_3 : rtv 91 3 = some 95 := by decide +kernel
theorem r_91_4 : rtv 91 4 = some 96 := by decide +kernel
theorem r_91_5 : rtv 91 5 = some 97 := by decide +kernel
theorem rn_91_6 : rtv 91 6 = none := by decide +kernel
theorem k_92 : K2[92]? = some (0, 8) := by decide +kernel
theorem e_92 : rtab.getD 92 [] = [] := by decide +kernel
theorem k_93 : K2[93]? = some (0, 8) := by decide +kernel
theorem e_93 : rtab.getD 93 [] = [] := by decide +kernel
theorem k_94 : K2[94]? = some (0, 8) := by decide +kernel
theorem e_94 : rtab.getD 94 [] = [] := by decide +kernel
theorem k_95 : K2[95]? = some (0, 160) := by decide +kernel
theorem e_95 : rtab.getD 95 [] = [] := by decide +kernel
theorem k_96 : K2[96]? = some (3, 8) := by decide +kernel
theorem e_96 : rtab.getD 96 [] = [] := by decide +kernel
theorem k_97 : K2[97]? = some (3, 8) := by decide +kernel
theorem e_97 : rtab.getD 97 [] = [] := by decide +kernel
theorem k_98 : K2[98]? = some (12, 0) := by decide +kernel
theorem r_98_0 : rtv 98 0 = some 99 := by decide +kernel
theorem r_98_1 : rtv 98 1 = some 100 := by decide +kernel
theorem r_98_2 : rtv 98 2 = some 101 := by decide +kernel
theorem r_98_3 : rtv 98 3 = some 102 := by decide +kernel
theorem rn_98_4 : rtv 98 4 = none := by decide +kernel
theorem k_99 : K2[99]? = some (0, 10) := by decide +kernel
theorem e_99 : rtab.getD 99 [] = [] := by decide +kernel
theorem k_100 : K2[100]? = some (0, 8) := by decide +kernel
theorem e_100 : rtab.getD 100 [] = [] := by decide +kernel
theorem k_101 : K2[101]? = some (0, 160) := by decide +kernel
theorem e_101 : rtab.getD 101 [] = [] := by decide +kernel
theorem k_102 : K2[102]? = some (9, 0) := by decide +kernel
theorem r_102_0 : rtv 102 0 = some 103 := by decide +kernel
theorem r_102_1 : rtv 102 1 = some 104 := by decide +kernel
theorem r_102_2 : rtv 102 2 = some 105 := by decide +kernel
theorem r_102_3 : rtv 102 3 = some 106 := by decide +kernel
theorem rn_102_4 : rtv 102 4 = none := by decide +kernel
theorem k_103 : K2[103]? = some (0, 20) := by decide +kernel
theorem e_103 : rtab.getD 103 [] = [] := by decide +kernel
theorem k_104 : K2[104]? = some (0, 20) := by decide +kernel
theorem e_104 : rtab.getD 104 [] = [] := by decide +kernel
theorem k_105 : K2[105]? = some (0, 20) := by decide +kernel
theorem e_105 : rtab.getD 105 [] = [] := by decide +kernel
theorem k_106 : K2[106]? = some (0, 20) := by decide +kernel
theorem e_106 : rtab.getD 106 [] = [] := by decide +kernel
theorem k_107 : K2[107]? = some (12, 0) := by decide +kernel
theorem r_107_0 : rtv 107 0 = some 108 := by decide +kernel
theorem r_107_1 : rtv 107 1 = some 109 := by decide +kernel
theorem r_107_2 : rtv 107 2 = some 110 := by decide +kernel
theorem r_107_3 : rtv 107 3 = some 111 := by decide +kernel
theorem rn_107_4 : rtv 107 4 = none := by decide +kernel
theorem k_108 : K2[108]? = some (0, 10) := by decide +kernel
theorem e_108 : rtab.getD 108 [] = [] := by decide +kernel
theorem k_109 : K2[109]? = some (0, 8) := by decide +kernel
theorem e_109 : rtab.getD 109 [] = [] := by decide +kernel
theorem k_110 : K2[110]? = some (0, 160) := by decide +kernel
theorem e_110 : rtab.getD 110 [] = [] := by decide +kernel
theorem k_111 : K2[111]? = some (9, 0) := by decide +kernel
theorem r_111_0 : rtv 111 0 = some 112 := by decide +kernel
theorem r_111_1 : rtv 111 1 = some 113 := by decide +kernel
theorem r_111_2 : rtv 111 2 = some 114 := by decide +kernel
theorem r_111_3 : rtv 111 3 = some 115 := by decide +kernel
theorem rn_111_4 : rtv 111 4 = none := by decide +kernel
theorem k_112 : K2[112]? = some (0, 20) := by decide +kernel
theorem e_112 : rtab.getD 112 [] = [] := by decide +kernel
theorem k_113 : K2[113]? = some (0, 20) := by decide +kernel
theorem e_113 : rtab.getD 113 [] = [] := by decide +kernel
theorem k_114 : K2[114]? = some (0, 20) := by decide +kernel
theorem e_114 : rtab.getD 114 [] = [] := by decide +kernel
theorem k_115 : K2[115]? = some (0, 20) := by decide +kernel
theorem e_115 : rtab.getD 115 [] = [] := by decide +kernel
theorem k_116 : K2[116]? = some (12, 0) := by decide +kernel
theorem r_116_0 : rtv 116 0 = some 117 := by decide +kernel
theorem r_116_1 : rtv 116 1 = some 118 := by decide +kernel
theorem r_116_2 : rtv 116 2 = some 119 := by decide +kernel
theorem r_116_3 : rtv 116 3 = some 120 := by decide +kernel
theorem rn_116_4 : rtv 116 4 = none := by decide +kernel
theorem k_117 : K2[117]? = some (0, 10) := by decide +kernel
theorem e_117 : rtab.getD 117 [] = [] := by decide +kernel
theorem k_118 : K2[118]? = some (0, 8) := by decide +kernel
theorem e_118 : rtab.getD 118 [] = [] := by decide +kernel
theorem k_119 : K2[119]? = some (0, 160) := by decide +kernel
theorem e_119 : rtab.getD 119 [] = [] := by decide +kernel
theorem k_120 : K2[120]? = some (9, 0) := by decide +kernel
theorem r_120_0 : rtv 120 0 = some 121 := by decide +kernel
theorem r_120_1 : rtv 120 1 = some 122 := by decide +kernel
theorem r_120_2 : rtv 120 2 = some 123 := by decide +kernel
theorem r_120_3 : rtv 120 3 = some 124 := by decide +kernel
theorem rn_120_4 : rtv 120 4 = none := by decide +kernel
theorem k_121 : K2[121]? = some (0, 20) := by decide +kernel
theorem e_121 : rtab.getD 121 [] = [] := by decide +kernel
theorem k_122 : K2[122]? = some (0, 20) := by decide +kernel
theorem e_122 : rtab.getD 122 [] = [] := by decide +kernel
theorem k_123 : K2[123]? = some (0, 20) := by decide +kernel
theorem e_123 : rtab.getD 123 [] = [] := by decide +kernel
theorem k_124 : K2[124]? = some (0, 20) := by decide +kernel
theorem e_124 : rtab.getD 124 [] = [] := by decide +kernel
theorem k_125 : K2[125]? = some (19, 0) := by decide +kernel
theorem rn_125_0 : rtv 125 0 = none := by decide +kernel
theorem rn_125_1 : rtv 125 1 = none := by decide +kernel
theorem rn_125_2 : rtv 125 2 = none := by decide +kernel
theorem rn_125_3 : rtv 125 3 = none := by decide +kernel
theorem rn_125_4 : rtv 125 4 = none := by decide +kernel
theorem rn_125_5 : rtv 125 5 = none := by decide +kernel
theorem rn_125_6 : rtv 125 6 = none := by decide +kernel
theorem rn_125_7 : rtv 125 7 = none := by decide +kernel
theorem rn_125_8 : rtv 125 8 = none := by decide +kernel
theorem r_125_9 : rtv 125 9 = some 126 := by decide +kernel
theorem r_125_10 : rtv 125 10 = some 127 := by decide +kernel
theorem r_125_11 : rtv 125 11 = some 128 := by decide +kernel
theorem r_125_12 : rtv 125 12 = some 129 := by decide +kernel
theorem r_125_13 : rtv 125 13 = some 130 := by decide +kernel
theorem r_125_14 : rtv 125 14 = some 141 := by decide +kernel
theorem r_125_15 : rtv 125 15 = some 153 := by decide +kernel
theorem r_125_16 : rtv 125 16 = some 166 := by decide +kernel
theorem r_125_17 : rtv 125 17 = some 179 := by decide +kernel
theorem r_125_18 : rtv 125 18 = some 183 := by decide +kernel
theorem r_125_19 : rtv 125 19 = some 187 := by decide +kernel
theorem r_125_20 : rtv 125 20 = some 194 := by decide +kernel
theorem r_125_21 : rtv 125 21 = some 201 := by decide +kernel
theorem r_125_22 : rtv 125 22 = some 208 := by decide +kernel
theorem r_125_23 : rtv 125 23 = some 218 := by decide +kernel
theorem r_125_24 : rtv 125 24 = some 227 := by decide +kernel
theorem r_125_25 : rtv 125 25 = some 236 := by decide +kernel
theorem r_125_26 : rtv 125 26 = some 245 := by decide +kernel
theorem rn_125_27 : rtv 125 27 = none := by decide +kernel
theorem rn_125_28 : rtv 125 28 = none := by decide +kernel
theorem rn_125_29 : rtv 125 29 = none := by decide +kernel
theorem rn_125_30 : rtv 125 30 = none := by decide +kernel
theorem r_125_31 : rtv 125 31 = some 254 := by decide +kernel
theorem r_125_32 : rtv 125 32 = some 415 := by decide +kernel
theorem r_125_33 : rtv 125 33 = some 576 := by decide +kernel
theorem r_125_34 : rtv 125 34 = some 577 := by decide +kernel
theorem r_125_35 : rtv 125 35 = some 578 := by decide +kernel
theorem r_125_36 : rtv 125 36 = some 579 := by decide +kernel
theorem r_125_37 : rtv 125 37 = some 580 := by decide +kernel
theorem r_125_38 : rtv 125 38 = some 597 := by decide +kernel
theorem r_125_39 : rtv 125 39 = some 614 := by decide +kernel
theorem r_125_40 : rtv 125 40 = some 623 := by decide +kernel
theorem r_125_41 : rtv 125 41 = some 632 := by decide +kernel
theorem r_125_42 : rtv 125 42 = some 653 := by decide +kernel
theorem rn_125_43 : rtv 125 43 = none := by decide +kernel
theorem rn_125_44 : rtv 125 44 = none := by decide +kernel
theorem rn_125_45 : rtv 125 45 = none := by decide +kernel
theorem rn_125_46 : rtv 125 46 = none := by decide +kernel
theorem rn_125_47 : rtv 125 47 = none := by decide +kernel
theorem rn_125_48 : rtv 125 48 = none := by decide +kernel
theorem r_125_49 : rtv 125 49 = some 657 := by decide +kernel
theorem r_125_50 : rtv 125 50 = some 682 := by decide +kernel
theorem r_125_51 : rtv 125 51 = some 707 := by decide +kernel
theorem rn_125_52 : rtv 125 52 = none := by decide +kernel
theorem rn_125_53 : rtv 125 53 = none := by decide +kernel
theorem rn_125_54 : rtv 125 54 = none := by decide +kernel
theorem r_125_55 : rtv 125 55 = some 732 := by decide +kernel
theorem r_125_56 : rtv 125 56 = some 757 := by decide +kernel
theorem r_125_57 : rtv 125 57 = some 782 := by decide +kernel
theorem r_125_58 : rtv 125 58 = some 783 := by decide +kernel
theorem r_125_59 : rtv 125 59 = some 784 := by decide +kernel
theorem rn_125_60 : rtv 125 60 = none := by decide +kernel
theorem r_125_61 : rtv 125 61 = some 785 := by decide +kernel
theorem rn_125_62 : rtv 125 62 = none := by decide +kernel
theorem rn_125_63 : rtv 125 63 = none := by decide +kernel
theorem r_125_64 : rtv 125 64 = some 811 := by decide +kernel
theorem r_125_65 : rtv 125 65 = some 812 := by decide +kernel
theorem k_126 : K2[126]? = some (0, 600) := by decide +kernel
theorem e_126 : rtab.getD 126 [] = [] := by decide +kernel
theorem k_127 : K2[127]? = some (0, 3) := by decide +kernel
theorem e_127 : rtab.getD 127 [] = [] := by decide +kernel
theorem k_128 : K2[128]? = some (0, 8) := by decide +kernel
theorem e_128 : rtab.getD 128 [] = [] := by decide +kernel
theorem k_129 : K2[129]? = some (0, 8) := by decide +kernel
theorem e_129 : rtab.getD 129 [] = [] := by decide +kernel
theorem k_130 : K2[130]? = some (5, 10) := by decide +kernel
theorem rr_130 : ∀ k, k < 10 → rtv 130 k = some (131 + k) := by decide +kernel
theorem kr_130 : ∀ k, k < 10 → K2[131 + k]? = some (0, 2) := by decide +kernel
theorem er_130 : ∀ k, k < 10 → rtab.getD (131 + k) [] = [] := by decide +kernel
theorem k_141 : K2[141]? = some (5, 11) := by decide +kernel
theorem rr_141 : ∀ k, k < 11 → rtv 141 k = some (142 + k) := by decide +kernel
theorem kr_141 : ∀ k, k < 11 → K2[142 + k]? = some (0, 2) := by decide +kernel
theorem er_141 : ∀ k, k < 11 → rtab.getD (142 + k) [] = [] := by decide +kernel
theorem k_153 : K2[153]? = some (5, 12) := by decide +kernel
theorem rr_153 : ∀ k, k < 12 → rtv 153 k = some (154 + k) := by decide +kernel
theorem kr_153 : ∀ k, k < 12 → K2[154 + k]? = some (0, 3) := by decide +kernel
theorem er_153 : ∀ k, k < 12 → rtab.getD (154 + k) [] = [] := by decide +kernel
theorem k_166 : K2[166]? = some (5, 12) := by decide +kernel
theorem rr_166 : ∀ k, k < 12 → rtv 166 k = some (167 + k) := by decide +kernel
theorem kr_166 : ∀ k, k < 12 → K2[167 + k]? = some (0, 3) := by decide +kernel
theorem er_166 : ∀ k, k < 12 → rtab.getD (167 + k) [] = [] := by decide +kernel
theorem k_179 : K2[179]? = some (5, 3) := by decide +kernel
theorem rr_179 : ∀ k, k < 3 → rtv 179 k = some (180 + k) := by decide +kernel
theorem kr_179 : ∀ k, k < 3 → K2[180 + k]? = some (0, 3) := by decide +kernel
theorem er_179 : ∀ k, k < 3 → rtab.getD (180 + k) [] = [] := by decide +kernel
theorem k_183 : K2[183]? = some (5, 3) := by decide +kernel
theorem rr_183 : ∀ k, k < 3 → rtv 183 k = some (184 + k) := by decide +kernel
theorem kr_183 : ∀ k, k < 3 → K2[184 + k]? = some (0, 3) := by decide +kernel
theorem er_183 : ∀ k, k < 3 → rtab.getD (184 + k) [] = [] := by decide +kernel
theorem k_187 : K2[187]? = some (5, 6) := by decide +kernel
theorem rr_187 : ∀ k, k < 6 → rtv 187 k = some (188 + k) := by decide +kernel
theorem kr_187 : ∀ k, k < 6 → K2[188 + k]? = some (0, 2) := by decide +kernel
theorem er_187 : ∀ k, k < 6 → rtab.getD (188 + k) [] = [] := by decide +kernel
theorem k_194 : K2[194]? = some (5, 6) := by decide +kernel
theorem rr_194 : ∀ k, k < 6 → rtv 194 k = some (195 + k) := by decide +kernel
theorem kr_194 : ∀ k, k < 6 → K2[195 + k]? = some (0, 2) := by decide +kernel
theorem er_194 : ∀ k, k < 6 → rtab.getD (195 + k) [] = [] := by decide +kernel
theorem k_201 : K2[201]? = some (5, 6) := by decide +kernel
theorem rr_201 : ∀ k, k < 6 → rtv 201 k = some (202 + k) := by decide +kernel
theorem kr_201 : ∀ k, k < 6 → K2[202 + k]? = some (0, 2) := by decide +kernel
theorem er_201 : ∀ k, k < 6 → rtab.getD (202 + k) [] = [] := by decide +kernel
theorem k_208 : K2[208]? = some (5, 9) := by decide +kernel
theorem rr_208 : ∀ k, k < 9 → rtv 208 k = some (209 + k) := by decide +kernel
theorem kr_208 : ∀ k, k < 9 → K2[209 + k]? = some (0, 2) := by decide +kernel
theorem er_208 : ∀ k, k < 9 → rtab.getD (209 + k) [] = [] := by decide +kernel
theorem k_218 : K2[218]? = some (5, 8) := by decide +kernel
theorem rr_218 : ∀ k, k < 8 → rtv 218 k = some (219 + k) := by decide +kernel
theorem kr_218 : ∀ k, k < 8 → K2[219 + k]? = some (0, 3) := by decide +kernel
theorem er_218 : ∀ k, k < 8 → rtab.getD (219 + k) [] = [] := by decide +kernel
theorem k_227 : K2[227]? = some (5, 8) := by decide +kernel
theorem rr_227 : ∀ k, k < 8 → rtv 227 k = some (228 + k) := by decide +kernel
theorem kr_227 : ∀ k, k < 8 → K2[228 + k]? = some (0, 3) := by decide +kernel
theorem er_227 : ∀ k, k < 8 → rtab.getD (228 + k) [] = [] := by decide +kernel
theorem k_236 : K2[236]? = some (5, 8) := by decide +kernel
theorem rr_236 : ∀ k, k < 8 → rtv 236 k = some (237 + k) := by decide +kernel
theorem kr_236 : ∀ k, k < 8 → K2[237 + k]? = some (0, 20) := by decide +kernel
theorem er_236 : ∀ k, k < 8 → rtab.getD (237 + k) [] = [] := by decide +kernel
theorem k_245 : K2[245]? = some (5, 8) := by decide +kernel
theorem rr_245 : ∀ k, k < 8 → rtv 245 k = some (246 + k) := by decide +kernel
theorem kr_245 : ∀ k, k < 8 → K2[246 + k]? = some (0, 20) := by decide +kernel
theorem er_245 : ∀ k, k < 8 → rtab.getD (246 + k) [] = [] := by decide +kernel
theorem k_254 : K2[254]? = some (5, 160) := by decide +kernel
theorem rr_254 : ∀ k, k < 160 → rtv 254 k = some (255 + k) := by decide +kernel
theorem kr_254 : ∀ k, k < 160 → K2[255 + k]? = some (0, 2) := by decide +kernel
theorem er_254 : ∀ k, k < 160 → rtab.getD (255 + k) [] = [] := by decide +kernel
theorem k_415 : K2[415]? = some (5, 160) := by decide +kernel
theorem rr_415 : ∀ k, k < 160 → rtv 415 k = some (416 + k) := by decide +kernel
theorem kr_415 : ∀ k, k < 160 → K2[416 + k]? = some (0, 2) := by decide +kernel
theorem er_415 : ∀ k, k < 160 → rtab.getD (416 + k) [] = [] := by decide +kernel
theorem k_576 : K2[576]? = some (0, 160) := by decide +kernel
theorem e_576 : rtab.getD 576 [] = [] := by decide +kernel
theorem k_577 : K2[577]? = some (0, 4) := by decide +kernel
theorem e_577 : rtab.getD 577 [] = [] := by decide +kernel
theorem k_578 : K2[578]? = some (0, 57600) := by decide +kernel
theorem e_578 : rtab.getD 578 [] = [] := by decide +kernel
theorem k_579 : K2[579]? = some (0, 57600) := by decide +kernel
theorem e_579 : rtab.getD 579 [] = [] := by decide +kernel
theorem k_580 : K2[580]? = some (5, 16) := by decide +kernel
theorem rr_580 : ∀ k, k < 16 → rtv 580 k = some (581 + k) := by decide +kernel
theorem kr_580 : ∀ k, k < 16 → K2[581 + k]? = some (0, 3) := by decide +kernel
theorem er_580 : ∀ k, k < 16 → rtab.getD (581 + k) [] = [] := by decide +kernel
theorem k_597 : K2[597]? = some (5, 16) := by decide +kernel
theorem rr_597 : ∀ k, k < 16 → rtv 597 k = some (598 + k) := by decide +kernel
theorem kr_597 : ∀ k, k < 16 → K2[598 + k]? = some (0, 3) := by decide +kernel
theorem er_597 : ∀ k, k < 16 → rtab.getD (598 + k) [] = [] := by decide +kernel
theorem k_614 : K2[614]? = some (5, 8) := by decide +kernel
theorem rr_614 : ∀ k, k < 8 → rtv 614 k = some (615 + k) := by decide +kernel
theorem kr_614 : ∀ k, k < 8 → K2[615 + k]? = some (0, 2) := by decide +kernel
theorem er_614 : ∀ k, k < 8 → rtab.getD (615 + k) [] = [] := by decide +kernel
theorem k_623 : K2[623]? = some (5, 8) := by decide +kernel
theorem rr_623 : ∀ k, k < 8 → rtv 623 k = some (624 + k) := by decide +kernel
theorem kr_623 : ∀ k, k < 8 → K2[624 + k]? = some (0, 2) := by decide +kernel
theorem er_623 : ∀ k, k < 8 → rtab.getD (624 + k) [] = [] := by decide +kernel
theorem k_632 : K2[632]? = some (5, 20) := by decide +kernel
theorem rr_632 : ∀ k, k < 20 → rtv 632 k = some (633 + k) := by decide +kernel
theorem kr_632 : ∀ k, k < 20 → K2[633 + k]? = some (0, 178) := by decide +kernel
theorem er_632 : ∀ k, k < 20 → rtab.getD (633 + k) [] = [] := by decide +kernel
theorem k_653 : K2[653]? = some (5, 3) := by decide +kernel
theorem rr_653 : ∀ k, k < 3 → rtv 653 k = some (654 + k) := by decide +kernel
theorem kr_653 : ∀ k, k < 3 → K2[654 + k]? = some (0, 3740) := by decide +kernel
theorem er_653 : ∀ k, k < 3 → rtab.getD (654 + k) [] = [] := by decide +kernel
theorem k_657 : K2[657]? = some (5, 24) := by decide +kernel
theorem rr_657 : ∀ k, k < 24 → rtv 657 k = some (658 + k) := by decide +kernel
theorem kr_657 : ∀ k, k < 24 → K2[658 + k]? = some (0, 40) := by decide +kernel
theorem er_657 : ∀ k, k < 24 → rtab.getD (658 + k) [] = [] := by decide +kernel
theorem k_682 : K2[682]? = some (5, 24) := by decide +kernel
theorem rr_682 : ∀ k, k < 24 → rtv 682 k = some (683 + k) := by decide +kernel
theorem kr_682 : ∀ k, k < 24 → K2[683 + k]? = some (0, 40) := by decide +kernel
theorem er_682 : ∀ k, k < 24 → rtab.getD (683 + k) [] = [] := by decide +kernel
theorem k_707 : K2[707]? = some (5, 24) := by decide +kernel
theorem rr_707 : ∀ k, k < 24 → rtv 707 k = some (708 + k) := by decide +kernel
theorem kr_707 : ∀ k, k < 24 → K2[708 + k]? = some (0, 40) := by decide +kernel
theorem er_707 : ∀ k, k < 24 → rtab.getD (708 + k) [] = [] := by decide +kernel
theorem k_732 : K2[732]? = some (6, 24) := by decide +kernel
theorem rr_732 : ∀ k, k < 24 → rtv 732 k = some (733 + k) := by decide +kernel
theorem kr_732 : ∀ k, k < 24 → K2[733 + k]? = some (3, 40) := by decide +kernel
theorem er_732 : ∀ k, k < 24 → rtab.getD (733 + k) [] = [] := by decide +kernel
theorem k_757 : K2[757]? = some (5, 24) := by decide +kernel
theorem rr_757 : ∀ k, k < 24 → rtv 757 k = some (758 + k) := by decide +kernel
theorem kr_757 : ∀ k, k < 24 → K2[758 + k]? = some (0, 8) := by decide +kernel
theorem er_757 : ∀ k, k < 24 → rtab.getD (758 + k) [] = [] := by decide +kernel
theorem k_782 : K2[782]? = some (0, 8) := by decide +kernel
theorem e_782 : rtab.getD 782 [] = [] := by decide +kernel
theorem k_783 : K2[783]? = some (0, 8) := by decide +kernel
theorem e_783 : rtab.getD 783 [] = [] := by decide +kernel
theorem k_784 : K2[784]? = some (0, 8) := by decide +kernel
theorem e_784 : rtab.getD 784 [] = [] := by decide +kernel
theorem k_785 : K2[785]? = some (5, 25) := by decide +kernel
theorem rr_785 : ∀ k, k < 25 → rtv 785 k = some (786 + k) := by decide +kernel
theorem kr_785 : ∀ k, k < 25 → K2[786 + k]? = some (0, 40) := by decide +kernel
theorem er_785 : ∀ k, k < 25 → rtab.getD (786 + k) [] = [] := by decide +kernel
theorem k_811 : K2[811]? = some (2, 40) := by decide +kernel
theorem e_811 : rtab.getD 811 [] = [] := by decide +kernel
theorem k_812 : K2[812]? = some (2, 40) := by decide +kernel
theorem e_812 : rtab.getD 812 [] = [] := by decide +kernel
theorem k_813 : K2[813]? = some (3, 1) := by decide +kernel
theorem e_813 : rtab.getD 813 [] = [] := by decide +kernel
